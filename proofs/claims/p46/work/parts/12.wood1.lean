theorem gv_214 : Cond.fieldLink RX8 18 "Genericwood" "order" "LGenericwood$Order;" ∈ gw_L := gw_tab 214 (by decide +kernel) (by decide +kernel)
theorem gv_652 : Cond.code yX3_knows cX3_knows 2 (some .boolean) ∈ gw_L := gw_tab 652 (by decide +kernel) (by decide +kernel)
theorem gk_X3_knows : gw_K yX3_knows cX3_knows 2 (some .boolean) 1 := ⟨gv_652, gv_2, by decide +kernel, by decide +kernel⟩
theorem gv_650 : Cond.instanceMethod yX3_knows ∈ gw_L := gw_tab 650 (by decide +kernel) (by decide +kernel)
theorem gv_649 : Cond.methodLink RX8 308 yX3_knows ∈ gw_L := gw_tab 649 (by decide +kernel) (by decide +kernel)
theorem gv_651 : Cond.selects RX3 yX3_knows yX3_knows ∈ gw_L := gw_tab 651 (by decide +kernel) (by decide +kernel)
theorem gv_653 : Cond.classLink RX8 311 "java/lang/IndexOutOfBoundsException" ∈ gw_L := gw_tab 653 (by decide +kernel) (by decide +kernel)
theorem gv_25 : Cond.initialized "java/lang/IndexOutOfBoundsException" ∈ gw_L := gw_tab 25 (by decide +kernel) (by decide +kernel)
theorem gv_663 : Cond.methodLink RX8 315 (Bundle.initS "java/lang/IndexOutOfBoundsException") ∈ gw_L := gw_tab 663 (by decide +kernel) (by decide +kernel)
theorem gt_IndexOutOfBoundsException : ∀ w ∈ gw_tail "java/lang/IndexOutOfBoundsException" gw_ex, w ∈ gw_L := gw_pl [14, 579, 588, 594, 597, 599, 580, 581, 40, 41, 582, 587, 595, 615, 569, 616, 571, 617, 573, 583, 585, 575, 611, 612, 614, 575, 664, 665, 666, 605, 561, 605, 606, 607, 608, 563, 608, 609, 610, 611, 565, 654, 655, 656, 591, 657, 658, 659, 660, 578, 577, 661] (by decide +kernel) (by decide +kernel)
theorem ge_X8_311_315 : gw_E RX8 "java/lang/IndexOutOfBoundsException" 311 315 := ⟨gv_653, gv_25, gw_atS (P := fun w => w ∈ gw_L) (by decide +kernel) gv_663 gt_IndexOutOfBoundsException, gw_allB (by decide +kernel), by decide +kernel⟩
theorem gv_648 : Cond.code yX8_needCondition cX8_needCondition 2 none ∈ gw_L := gw_tab 648 (by decide +kernel) (by decide +kernel)
theorem gk_X8_needCondition : gw_K yX8_needCondition cX8_needCondition 2 none 1 := ⟨gv_648, gv_1, by decide +kernel, by decide +kernel⟩
theorem gv_647 : Cond.instanceMethod yX8_needCondition ∈ gw_L := gw_tab 647 (by decide +kernel) (by decide +kernel)
theorem gv_645 : Cond.methodLink RX8 127 yX8_needCondition ∈ gw_L := gw_tab 645 (by decide +kernel) (by decide +kernel)
theorem gv_s8 : Cond.selects RX8 yX8_needCondition yX8_needCondition ∈ gw_L := gw_sel 8 (by decide +kernel) (by decide +kernel)
theorem gv_721 : Cond.methodLink RX8 180 yX3_all ∈ gw_L := gw_tab 721 (by decide +kernel) (by decide +kernel)
theorem gv_487 : Cond.methodLink RX8 118 yX8_isPart ∈ gw_L := gw_tab 487 (by decide +kernel) (by decide +kernel)
theorem gv_722 : Cond.classLink RX8 143 "java/lang/IllegalArgumentException" ∈ gw_L := gw_tab 722 (by decide +kernel) (by decide +kernel)
theorem gv_31 : Cond.initialized "java/lang/IllegalArgumentException" ∈ gw_L := gw_tab 31 (by decide +kernel) (by decide +kernel)
theorem gv_732 : Cond.methodLink RX8 147 (Bundle.initS "java/lang/IllegalArgumentException") ∈ gw_L := gw_tab 732 (by decide +kernel) (by decide +kernel)
theorem gt_IllegalArgumentException : ∀ w ∈ gw_tail "java/lang/IllegalArgumentException" gw_ex, w ∈ gw_L := gw_pl [14, 579, 588, 594, 597, 599, 580, 581, 40, 41, 582, 587, 595, 615, 569, 616, 571, 617, 573, 583, 585, 575, 611, 612, 614, 575, 733, 734, 735, 605, 561, 605, 606, 607, 608, 563, 608, 609, 610, 611, 565, 723, 724, 725, 590, 726, 727, 728, 729, 578, 577, 730] (by decide +kernel) (by decide +kernel)
theorem ge_X8_143_147 : gw_E RX8 "java/lang/IllegalArgumentException" 143 147 := ⟨gv_722, gv_31, gw_atS (P := fun w => w ∈ gw_L) (by decide +kernel) gv_732 gt_IllegalArgumentException, gw_allB (by decide +kernel), by decide +kernel⟩
theorem gv_240 : Cond.methodLink RX8 96 yX3_ends ∈ gw_L := gw_tab 240 (by decide +kernel) (by decide +kernel)
theorem gv_485 : Cond.methodLink RX8 103 yX8_contains ∈ gw_L := gw_tab 485 (by decide +kernel) (by decide +kernel)
theorem gv_215 : Cond.fieldLink RX8 24 "Genericwood" "names" "LGenericwood$Names;" ∈ gw_L := gw_tab 215 (by decide +kernel) (by decide +kernel)
theorem gv_828 : Cond.code yX2_knows cX2_knows 2 (some .boolean) ∈ gw_L := gw_tab 828 (by decide +kernel) (by decide +kernel)
theorem gk_X2_knows : gw_K yX2_knows cX2_knows 2 (some .boolean) 1 := ⟨gv_828, gv_3, by decide +kernel, by decide +kernel⟩
theorem gv_826 : Cond.instanceMethod yX2_knows ∈ gw_L := gw_tab 826 (by decide +kernel) (by decide +kernel)
theorem gv_825 : Cond.methodLink RX8 320 yX2_knows ∈ gw_L := gw_tab 825 (by decide +kernel) (by decide +kernel)
theorem gv_827 : Cond.selects RX2 yX2_knows yX2_knows ∈ gw_L := gw_tab 827 (by decide +kernel) (by decide +kernel)
theorem gv_303 : Cond.methodLink RX8 290 yX2_size ∈ gw_L := gw_tab 303 (by decide +kernel) (by decide +kernel)
theorem gv_557 : Cond.classLink RX8 64 "java/lang/IllegalStateException" ∈ gw_L := gw_tab 557 (by decide +kernel) (by decide +kernel)
theorem gv_17 : Cond.initialized "java/lang/IllegalStateException" ∈ gw_L := gw_tab 17 (by decide +kernel) (by decide +kernel)
theorem gv_601 : Cond.methodLink RX8 68 (Bundle.initS "java/lang/IllegalStateException") ∈ gw_L := gw_tab 601 (by decide +kernel) (by decide +kernel)
theorem gt_IllegalStateException : ∀ w ∈ gw_tail "java/lang/IllegalStateException" gw_ex, w ∈ gw_L := gw_pl [14, 579, 588, 594, 597, 599, 580, 581, 40, 41, 582, 587, 595, 615, 569, 616, 571, 617, 573, 583, 585, 575, 611, 612, 614, 575, 602, 603, 604, 605, 561, 605, 606, 607, 608, 563, 608, 609, 610, 611, 565, 558, 559, 566, 567, 568, 570, 572, 574, 578, 577, 576] (by decide +kernel) (by decide +kernel)
theorem ge_X8_64_68 : gw_E RX8 "java/lang/IllegalStateException" 64 68 := ⟨gv_557, gv_17, gw_atS (P := fun w => w ∈ gw_L) (by decide +kernel) gv_601 gt_IllegalStateException, gw_allB (by decide +kernel), by decide +kernel⟩
theorem gv_216 : Cond.fieldLink RX8 28 "Genericwood" "formulas" "LGenericwood$Formulas;" ∈ gw_L := gw_tab 216 (by decide +kernel) (by decide +kernel)
theorem gv_1001 : Cond.methodLink RX8 330 yX1_knows ∈ gw_L := gw_tab 1001 (by decide +kernel) (by decide +kernel)
theorem gv_1000 : Cond.code yX8_needFormula cX8_needFormula 2 none ∈ gw_L := gw_tab 1000 (by decide +kernel) (by decide +kernel)
theorem gk_X8_needFormula : gw_K yX8_needFormula cX8_needFormula 2 none 1 := ⟨gv_1000, gv_1, by decide +kernel, by decide +kernel⟩
theorem gv_999 : Cond.instanceMethod yX8_needFormula ∈ gw_L := gw_tab 999 (by decide +kernel) (by decide +kernel)
theorem gv_997 : Cond.methodLink RX8 235 yX8_needFormula ∈ gw_L := gw_tab 997 (by decide +kernel) (by decide +kernel)
theorem gv_s20 : Cond.selects RX8 yX8_needFormula yX8_needFormula ∈ gw_L := gw_sel 20 (by decide +kernel) (by decide +kernel)
theorem gv_335 : Cond.code yX1_open cX1_open 2 (some .int) ∈ gw_L := gw_tab 335 (by decide +kernel) (by decide +kernel)
theorem gk_X1_open : gw_K yX1_open cX1_open 2 (some .int) 1 := ⟨gv_335, gv_4, by decide +kernel, by decide +kernel⟩
theorem gv_333 : Cond.instanceMethod yX1_open ∈ gw_L := gw_tab 333 (by decide +kernel) (by decide +kernel)
theorem gv_332 : Cond.methodLink RX8 249 yX1_open ∈ gw_L := gw_tab 332 (by decide +kernel) (by decide +kernel)
theorem gv_334 : Cond.selects RX1 yX1_open yX1_open ∈ gw_L := gw_tab 334 (by decide +kernel) (by decide +kernel)
theorem gv_669 : Cond.classLink RX8 82 "java/lang/UnsupportedOperationException" ∈ gw_L := gw_tab 669 (by decide +kernel) (by decide +kernel)
theorem gv_26 : Cond.initialized "java/lang/UnsupportedOperationException" ∈ gw_L := gw_tab 26 (by decide +kernel) (by decide +kernel)
theorem gv_679 : Cond.methodLink RX8 86 (Bundle.initS "java/lang/UnsupportedOperationException") ∈ gw_L := gw_tab 679 (by decide +kernel) (by decide +kernel)
theorem gt_UnsupportedOperationException : ∀ w ∈ gw_tail "java/lang/UnsupportedOperationException" gw_ex, w ∈ gw_L := gw_pl [14, 579, 588, 594, 597, 599, 580, 581, 40, 41, 582, 587, 595, 615, 569, 616, 571, 617, 573, 583, 585, 575, 611, 612, 614, 575, 680, 681, 682, 605, 561, 605, 606, 607, 608, 563, 608, 609, 610, 611, 565, 670, 671, 672, 592, 673, 674, 675, 676, 578, 577, 677] (by decide +kernel) (by decide +kernel)
theorem ge_X8_82_86 : gw_E RX8 "java/lang/UnsupportedOperationException" 82 86 := ⟨gv_669, gv_26, gw_atS (P := fun w => w ∈ gw_L) (by decide +kernel) gv_679 gt_UnsupportedOperationException, gw_allB (by decide +kernel), by decide +kernel⟩
theorem gv_327 : Cond.code yX1_size cX1_size 1 (some .int) ∈ gw_L := gw_tab 327 (by decide +kernel) (by decide +kernel)
theorem gk_X1_size : gw_K yX1_size cX1_size 1 (some .int) 0 := ⟨gv_327, gv_4, by decide +kernel, by decide +kernel⟩
theorem gv_325 : Cond.instanceMethod yX1_size ∈ gw_L := gw_tab 325 (by decide +kernel) (by decide +kernel)
theorem gv_324 : Cond.methodLink RX8 297 yX1_size ∈ gw_L := gw_tab 324 (by decide +kernel) (by decide +kernel)
theorem gv_326 : Cond.selects RX1 yX1_size yX1_size ∈ gw_L := gw_tab 326 (by decide +kernel) (by decide +kernel)
theorem gv_258 : Cond.methodLink RX8 60 yX3_size ∈ gw_L := gw_tab 258 (by decide +kernel) (by decide +kernel)
theorem gv_630 : Cond.code yX3_add cX3_add 2 (some .int) ∈ gw_L := gw_tab 630 (by decide +kernel) (by decide +kernel)
theorem gk_X3_add : gw_K yX3_add cX3_add 2 (some .int) 0 := ⟨gv_630, gv_2, by decide +kernel, by decide +kernel⟩
theorem gv_628 : Cond.instanceMethod yX3_add ∈ gw_L := gw_tab 628 (by decide +kernel) (by decide +kernel)
theorem gv_627 : Cond.methodLink RX8 71 yX3_add ∈ gw_L := gw_tab 627 (by decide +kernel) (by decide +kernel)
theorem gv_629 : Cond.selects RX3 yX3_add yX3_add ∈ gw_L := gw_tab 629 (by decide +kernel) (by decide +kernel)
theorem gv_644 : Cond.code yX8_needConditions cX8_needConditions 3 none ∈ gw_L := gw_tab 644 (by decide +kernel) (by decide +kernel)
theorem gk_X8_needConditions : gw_K yX8_needConditions cX8_needConditions 3 none 2 := ⟨gv_644, gv_1, by decide +kernel, by decide +kernel⟩
theorem gv_643 : Cond.instanceMethod yX8_needConditions ∈ gw_L := gw_tab 643 (by decide +kernel) (by decide +kernel)
theorem gv_641 : Cond.methodLink RX8 74 yX8_needConditions ∈ gw_L := gw_tab 641 (by decide +kernel) (by decide +kernel)
theorem gv_s7 : Cond.selects RX8 yX8_needConditions yX8_needConditions ∈ gw_L := gw_sel 7 (by decide +kernel) (by decide +kernel)
theorem gv_266 : Cond.methodLink RX8 78 yX3_stands ∈ gw_L := gw_tab 266 (by decide +kernel) (by decide +kernel)
theorem gv_688 : Cond.code yX3_place cX3_place 5 none ∈ gw_L := gw_tab 688 (by decide +kernel) (by decide +kernel)
theorem gk_X3_place : gw_K yX3_place cX3_place 5 none 2 := ⟨gv_688, gv_2, by decide +kernel, by decide +kernel⟩
theorem gv_686 : Cond.instanceMethod yX3_place ∈ gw_L := gw_tab 686 (by decide +kernel) (by decide +kernel)
theorem gv_685 : Cond.methodLink RX8 87 yX3_place ∈ gw_L := gw_tab 685 (by decide +kernel) (by decide +kernel)
theorem gv_687 : Cond.selects RX3 yX3_place yX3_place ∈ gw_L := gw_tab 687 (by decide +kernel) (by decide +kernel)
theorem gv_693 : Cond.code yX3_pairsBelow cX3_pairsBelow 3 (some .int) ∈ gw_L := gw_tab 693 (by decide +kernel) (by decide +kernel)
theorem gk_X3_pairsBelow : gw_K yX3_pairsBelow cX3_pairsBelow 3 (some .int) 0 := ⟨gv_693, gv_2, by decide +kernel, by decide +kernel⟩
theorem gv_691 : Cond.instanceMethod yX3_pairsBelow ∈ gw_L := gw_tab 691 (by decide +kernel) (by decide +kernel)
theorem gv_690 : Cond.methodLink RX8 90 yX3_pairsBelow ∈ gw_L := gw_tab 690 (by decide +kernel) (by decide +kernel)
theorem gv_692 : Cond.selects RX3 yX3_pairsBelow yX3_pairsBelow ∈ gw_L := gw_tab 692 (by decide +kernel) (by decide +kernel)
theorem gv_287 : Cond.code yX3_agree cX3_agree 3 (some .boolean) ∈ gw_L := gw_tab 287 (by decide +kernel) (by decide +kernel)
theorem gk_X3_agree : gw_K yX3_agree cX3_agree 3 (some .boolean) 2 := ⟨gv_287, gv_2, by decide +kernel, by decide +kernel⟩
theorem gv_285 : Cond.instanceMethod yX3_agree ∈ gw_L := gw_tab 285 (by decide +kernel) (by decide +kernel)
theorem gv_284 : Cond.methodLink RX8 93 yX3_agree ∈ gw_L := gw_tab 284 (by decide +kernel) (by decide +kernel)
theorem gv_286 : Cond.selects RX3 yX3_agree yX3_agree ∈ gw_L := gw_tab 286 (by decide +kernel) (by decide +kernel)
theorem gv_720 : Cond.code yX8_needSet cX8_needSet 2 none ∈ gw_L := gw_tab 720 (by decide +kernel) (by decide +kernel)
theorem gk_X8_needSet : gw_K yX8_needSet cX8_needSet 2 none 1 := ⟨gv_720, gv_1, by decide +kernel, by decide +kernel⟩
theorem gv_719 : Cond.instanceMethod yX8_needSet ∈ gw_L := gw_tab 719 (by decide +kernel) (by decide +kernel)
theorem gv_717 : Cond.methodLink RX8 99 yX8_needSet ∈ gw_L := gw_tab 717 (by decide +kernel) (by decide +kernel)
theorem gv_s9 : Cond.selects RX8 yX8_needSet yX8_needSet ∈ gw_L := gw_sel 9 (by decide +kernel) (by decide +kernel)
theorem gv_248 : Cond.methodLink RX8 106 yJ6_bitCount_0f7a4 ∈ gw_L := gw_tab 248 (by decide +kernel) (by decide +kernel)
theorem gv_302 : Cond.methodLink RX8 112 yX3_down ∈ gw_L := gw_tab 302 (by decide +kernel) (by decide +kernel)
theorem gv_755 : Cond.code yX3_up cX3_up 4 (some .int) ∈ gw_L := gw_tab 755 (by decide +kernel) (by decide +kernel)
theorem gk_X3_up : gw_K yX3_up cX3_up 4 (some .int) 1 := ⟨gv_755, gv_2, by decide +kernel, by decide +kernel⟩
theorem gv_753 : Cond.instanceMethod yX3_up ∈ gw_L := gw_tab 753 (by decide +kernel) (by decide +kernel)
theorem gv_752 : Cond.methodLink RX8 115 yX3_up ∈ gw_L := gw_tab 752 (by decide +kernel) (by decide +kernel)
theorem gv_754 : Cond.selects RX3 yX3_up yX3_up ∈ gw_L := gw_tab 754 (by decide +kernel) (by decide +kernel)
theorem gv_759 : Cond.code yX8_meetsAll cX8_meetsAll 4 (some .boolean) ∈ gw_L := gw_tab 759 (by decide +kernel) (by decide +kernel)
theorem gk_X8_meetsAll : gw_K yX8_meetsAll cX8_meetsAll 4 (some .boolean) 2 := ⟨gv_759, gv_1, by decide +kernel, by decide +kernel⟩
theorem gv_758 : Cond.instanceMethod yX8_meetsAll ∈ gw_L := gw_tab 758 (by decide +kernel) (by decide +kernel)
theorem gv_756 : Cond.methodLink RX8 121 yX8_meetsAll ∈ gw_L := gw_tab 756 (by decide +kernel) (by decide +kernel)
theorem gv_s10 : Cond.selects RX8 yX8_meetsAll yX8_meetsAll ∈ gw_L := gw_sel 10 (by decide +kernel) (by decide +kernel)
theorem gv_283 : Cond.code yX8_canAvoid cX8_canAvoid 4 (some .boolean) ∈ gw_L := gw_tab 283 (by decide +kernel) (by decide +kernel)
theorem gk_X8_canAvoid : gw_K yX8_canAvoid cX8_canAvoid 4 (some .boolean) 2 := ⟨gv_283, gv_1, by decide +kernel, by decide +kernel⟩
theorem gv_282 : Cond.instanceMethod yX8_canAvoid ∈ gw_L := gw_tab 282 (by decide +kernel) (by decide +kernel)
theorem gv_280 : Cond.methodLink RX8 124 yX8_canAvoid ∈ gw_L := gw_tab 280 (by decide +kernel) (by decide +kernel)
theorem gv_s0 : Cond.selects RX8 yX8_canAvoid yX8_canAvoid ∈ gw_L := gw_sel 0 (by decide +kernel) (by decide +kernel)
theorem gv_486 : Cond.methodLink RX8 130 yX3_endsOf ∈ gw_L := gw_tab 486 (by decide +kernel) (by decide +kernel)
theorem gv_784 : Cond.code yX8_needWorld cX8_needWorld 2 none ∈ gw_L := gw_tab 784 (by decide +kernel) (by decide +kernel)
theorem gk_X8_needWorld : gw_K yX8_needWorld cX8_needWorld 2 none 1 := ⟨gv_784, gv_1, by decide +kernel, by decide +kernel⟩
theorem gv_783 : Cond.instanceMethod yX8_needWorld ∈ gw_L := gw_tab 783 (by decide +kernel) (by decide +kernel)
theorem gv_781 : Cond.methodLink RX8 133 yX8_needWorld ∈ gw_L := gw_tab 781 (by decide +kernel) (by decide +kernel)
theorem gv_s11 : Cond.selects RX8 yX8_needWorld yX8_needWorld ∈ gw_L := gw_sel 11 (by decide +kernel) (by decide +kernel)
theorem gv_796 : Cond.code yX8_needRoomForNames cX8_needRoomForNames 2 none ∈ gw_L := gw_tab 796 (by decide +kernel) (by decide +kernel)
theorem gk_X8_needRoomForNames : gw_K yX8_needRoomForNames cX8_needRoomForNames 2 none 1 := ⟨gv_796, gv_1, by decide +kernel, by decide +kernel⟩
theorem gv_795 : Cond.instanceMethod yX8_needRoomForNames ∈ gw_L := gw_tab 795 (by decide +kernel) (by decide +kernel)
theorem gv_793 : Cond.methodLink RX8 136 yX8_needRoomForNames ∈ gw_L := gw_tab 793 (by decide +kernel) (by decide +kernel)
theorem gv_s12 : Cond.selects RX8 yX8_needRoomForNames yX8_needRoomForNames ∈ gw_L := gw_sel 12 (by decide +kernel) (by decide +kernel)
theorem gv_798 : Cond.methodLink RX8 139 yX2_add ∈ gw_L := gw_tab 798 (by decide +kernel) (by decide +kernel)
theorem gv_824 : Cond.code yX8_needName cX8_needName 2 none ∈ gw_L := gw_tab 824 (by decide +kernel) (by decide +kernel)
theorem gk_X8_needName : gw_K yX8_needName cX8_needName 2 none 1 := ⟨gv_824, gv_1, by decide +kernel, by decide +kernel⟩
theorem gv_823 : Cond.instanceMethod yX8_needName ∈ gw_L := gw_tab 823 (by decide +kernel) (by decide +kernel)
theorem gv_821 : Cond.methodLink RX8 140 yX8_needName ∈ gw_L := gw_tab 821 (by decide +kernel) (by decide +kernel)
theorem gv_s15 : Cond.selects RX8 yX8_needName yX8_needName ∈ gw_L := gw_sel 15 (by decide +kernel) (by decide +kernel)
theorem gv_834 : Cond.code yX2_isStandard cX2_isStandard 3 (some .boolean) ∈ gw_L := gw_tab 834 (by decide +kernel) (by decide +kernel)
theorem gk_X2_isStandard : gw_K yX2_isStandard cX2_isStandard 3 (some .boolean) 1 := ⟨gv_834, gv_3, by decide +kernel, by decide +kernel⟩
theorem gv_832 : Cond.instanceMethod yX2_isStandard ∈ gw_L := gw_tab 832 (by decide +kernel) (by decide +kernel)
theorem gv_831 : Cond.methodLink RX8 148 yX2_isStandard ∈ gw_L := gw_tab 831 (by decide +kernel) (by decide +kernel)
theorem gv_833 : Cond.selects RX2 yX2_isStandard yX2_isStandard ∈ gw_L := gw_tab 833 (by decide +kernel) (by decide +kernel)
theorem gv_842 : Cond.code yX2_hasPair cX2_hasPair 5 (some .boolean) ∈ gw_L := gw_tab 842 (by decide +kernel) (by decide +kernel)
theorem gk_X2_hasPair : gw_K yX2_hasPair cX2_hasPair 5 (some .boolean) 3 := ⟨gv_842, gv_3, by decide +kernel, by decide +kernel⟩
theorem gv_840 : Cond.instanceMethod yX2_hasPair ∈ gw_L := gw_tab 840 (by decide +kernel) (by decide +kernel)
theorem gv_839 : Cond.methodLink RX8 152 yX2_hasPair ∈ gw_L := gw_tab 839 (by decide +kernel) (by decide +kernel)
theorem gv_841 : Cond.selects RX2 yX2_hasPair yX2_hasPair ∈ gw_L := gw_tab 841 (by decide +kernel) (by decide +kernel)
theorem gv_847 : Cond.code yX2_wouldRiseTooHigh cX2_wouldRiseTooHigh 4 (some .boolean) ∈ gw_L := gw_tab 847 (by decide +kernel) (by decide +kernel)
theorem gk_X2_wouldRiseTooHigh : gw_K yX2_wouldRiseTooHigh cX2_wouldRiseTooHigh 4 (some .boolean) 2 := ⟨gv_847, gv_3, by decide +kernel, by decide +kernel⟩
theorem gv_845 : Cond.instanceMethod yX2_wouldRiseTooHigh ∈ gw_L := gw_tab 845 (by decide +kernel) (by decide +kernel)
theorem gv_844 : Cond.methodLink RX8 156 yX2_wouldRiseTooHigh ∈ gw_L := gw_tab 844 (by decide +kernel) (by decide +kernel)
theorem gv_846 : Cond.selects RX2 yX2_wouldRiseTooHigh yX2_wouldRiseTooHigh ∈ gw_L := gw_tab 846 (by decide +kernel) (by decide +kernel)
theorem gv_312 : Cond.methodLink RX8 161 yX2_pairsOf ∈ gw_L := gw_tab 312 (by decide +kernel) (by decide +kernel)
theorem gv_850 : Cond.methodLink RX8 166 yX2_addPair ∈ gw_L := gw_tab 850 (by decide +kernel) (by decide +kernel)
theorem gv_865 : Cond.code yX2_dropPair cX2_dropPair 2 none ∈ gw_L := gw_tab 865 (by decide +kernel) (by decide +kernel)
theorem gk_X2_dropPair : gw_K yX2_dropPair cX2_dropPair 2 none 1 := ⟨gv_865, gv_3, by decide +kernel, by decide +kernel⟩
theorem gv_863 : Cond.instanceMethod yX2_dropPair ∈ gw_L := gw_tab 863 (by decide +kernel) (by decide +kernel)
theorem gv_862 : Cond.methodLink RX8 172 yX2_dropPair ∈ gw_L := gw_tab 862 (by decide +kernel) (by decide +kernel)
theorem gv_864 : Cond.selects RX2 yX2_dropPair yX2_dropPair ∈ gw_L := gw_tab 864 (by decide +kernel) (by decide +kernel)
theorem gv_310 : Cond.code yX2_height cX2_height 2 (some .int) ∈ gw_L := gw_tab 310 (by decide +kernel) (by decide +kernel)
theorem gk_X2_height : gw_K yX2_height cX2_height 2 (some .int) 1 := ⟨gv_310, gv_3, by decide +kernel, by decide +kernel⟩
theorem gv_308 : Cond.instanceMethod yX2_height ∈ gw_L := gw_tab 308 (by decide +kernel) (by decide +kernel)
theorem gv_307 : Cond.methodLink RX8 175 yX2_height ∈ gw_L := gw_tab 307 (by decide +kernel) (by decide +kernel)
theorem gv_309 : Cond.selects RX2 yX2_height yX2_height ∈ gw_L := gw_tab 309 (by decide +kernel) (by decide +kernel)
theorem gv_885 : Cond.code yX2_missingFor cX2_missingFor 5 (some .int) ∈ gw_L := gw_tab 885 (by decide +kernel) (by decide +kernel)
theorem gk_X2_missingFor : gw_K yX2_missingFor cX2_missingFor 5 (some .int) 1 := ⟨gv_885, gv_3, by decide +kernel, by decide +kernel⟩
theorem gv_883 : Cond.instanceMethod yX2_missingFor ∈ gw_L := gw_tab 883 (by decide +kernel) (by decide +kernel)
theorem gv_882 : Cond.methodLink RX8 185 yX2_missingFor ∈ gw_L := gw_tab 882 (by decide +kernel) (by decide +kernel)
theorem gv_884 : Cond.selects RX2 yX2_missingFor yX2_missingFor ∈ gw_L := gw_tab 884 (by decide +kernel) (by decide +kernel)
theorem gv_893 : Cond.methodLink RX8 191 yX2_standardOf ∈ gw_L := gw_tab 893 (by decide +kernel) (by decide +kernel)
theorem gv_890 : Cond.code yX2_addStandard cX2_addStandard 4 none ∈ gw_L := gw_tab 890 (by decide +kernel) (by decide +kernel)
theorem gk_X2_addStandard : gw_K yX2_addStandard cX2_addStandard 4 none 1 := ⟨gv_890, gv_3, by decide +kernel, by decide +kernel⟩
theorem gv_888 : Cond.instanceMethod yX2_addStandard ∈ gw_L := gw_tab 888 (by decide +kernel) (by decide +kernel)
theorem gv_887 : Cond.methodLink RX8 188 yX2_addStandard ∈ gw_L := gw_tab 887 (by decide +kernel) (by decide +kernel)
theorem gv_889 : Cond.selects RX2 yX2_addStandard yX2_addStandard ∈ gw_L := gw_tab 889 (by decide +kernel) (by decide +kernel)
theorem gv_220 : Cond.fieldLink RX8 56 "Genericwood" "visited" "LGenericwood$World;" ∈ gw_L := gw_tab 220 (by decide +kernel) (by decide +kernel)
theorem gv_536 : Cond.methodLink RX8 194 yX7_enter ∈ gw_L := gw_tab 536 (by decide +kernel) (by decide +kernel)
theorem gv_548 : Cond.methodLink RX8 198 yX7_codeOf ∈ gw_L := gw_tab 548 (by decide +kernel) (by decide +kernel)
def f_X8_needCondition (a0 : Int32) (σ : gw_S) : Option ((Unit ⊕ String) × gw_S) := ((f_X3_knows a0 σ).bind fun p1 => (if p1.1 = 0 then (some (Sum.inr "java/lang/IndexOutOfBoundsException", p1.2)) else (some (Sum.inl (), p1.2))))
set_option maxHeartbeats 4000000 in
set_option maxRecDepth 100000 in
theorem gc_X8_needCondition (l : Launch) (hfl : l.stackTraces = false) (G : gw_G) (a0 : Int32) (σ : gw_S) (o : ((Unit ⊕ String) × gw_S)) (h : f_X8_needCondition a0 σ = some o) : gw_N (fun sz => gw_xV G sz o) (fun sz => gw_XC G sz o) 1 l yX8_needCondition cX8_needCondition 2 none { frames := 6, cells := 1, slots := 6, locals := 82 } G [.ref (G.2.1 0), .int a0] σ := by
  refine gw_enx (own := RX8) (lv := [(0, .ref (G.2.1 0)), (1, .int a0)]) (by decide +kernel) rfl (Nat.le_of_ble_eq_true rfl) rfl ?_
  intro p e s m below meth c ls X hl hP
  obtain ⟨hx, hb, hml, hown, hts, -, -, hT, hZ, -⟩ := id X
  have hS : va_S (gw_A G s.heap.size) s.heap s.heap [] := va_S.rf
  unfold f_X8_needCondition at h
  refine lv_aload_n hx hb dX8_needCondition_0 rfl (lv_at hl 0 rfl) ?_
  refine va_get (D := G.1) (ci := 10) (v := .ref (G.2.1 1)) (C := RX8) (T := TX8) (N := 7) hx hb hts gx_X8 hown hT.2.1 hP 0 rfl rfl 0 (by decide) (hts _ gv_214) (fun _ h9 => h9) rfl dX8_needCondition_1 ?_
  refine lv_iload_n hx hb dX8_needCondition_4 rfl (lv_at hl 1 rfl) ?_
  obtain ⟨p1, gp1, h⟩ := Option.bind_eq_some_iff.mp h
  refine gw_cz (gw_rV (C := RX3) X hP hS (gc_X3_knows l G a0 σ _ gp1) gk_X3_knows gv_649 ⟨gv_650, gv_651⟩ (va_recv hT.2.1 hP (ci := 6) (q0 := 1) rfl rfl) rfl rfl (Nat.le_of_ble_eq_true rfl) hl.1 ⟨rfl, rfl⟩ ⟨Nat.le_of_ble_eq_true rfl, Nat.le_of_ble_eq_true rfl⟩ ⟨Nat.le_of_ble_eq_true rfl, Nat.le_of_ble_eq_true rfl⟩ dX8_needCondition_5) hS (fun H locs hb_p1 hP hS => ?_)
  refine lv_if_ne (tgt := 22) hx hb dX8_needCondition_8 (by decide) (fun c => ?_) (fun c => ?_)
  · have h := (if_neg c).symm.trans h
    exact gw_xrv X hP hS (Nat.le_of_ble_eq_true rfl) (Nat.le_of_ble_eq_true rfl) h dX8_needCondition_22
  · have h := (if_pos c).symm.trans h
    exact gw_thrW X hP hS hfl ge_X8_311_315 (i := 1) rfl h hl.1 dX8_needCondition_11 dX8_needCondition_14 dX8_needCondition_15 dX8_needCondition_18 dX8_needCondition_21 ⟨Nat.le_of_ble_eq_true rfl, Nat.le_of_ble_eq_true rfl⟩ ⟨Nat.le_of_ble_eq_true rfl, Nat.le_of_ble_eq_true rfl⟩ (Nat.le_of_ble_eq_true rfl) (Nat.le_of_ble_eq_true rfl)
def f_X8_needConditions (a0 : Int32) (a1 : Int32) (σ : gw_S) : Option ((Unit ⊕ String) × gw_S) := ((f_X8_needCondition a0 σ).bind fun q2 => gw_bx q2 fun u1 => ((f_X8_needCondition a1 u1).bind fun q4 => gw_bx q4 fun u3 => (some (Sum.inl (), u3))))
set_option maxHeartbeats 4000000 in
set_option maxRecDepth 100000 in
theorem gc_X8_needConditions (l : Launch) (hfl : l.stackTraces = false) (G : gw_G) (a0 : Int32) (a1 : Int32) (σ : gw_S) (o : ((Unit ⊕ String) × gw_S)) (h : f_X8_needConditions a0 a1 σ = some o) : gw_N (fun sz => gw_xV G sz o) (fun sz => gw_XC G sz o) 2 l yX8_needConditions cX8_needConditions 3 none { frames := 7, cells := 2, slots := 12, locals := 103 } G [.ref (G.2.1 0), .int a0, .int a1] σ := by
  refine gw_enx (own := RX8) (lv := [(0, .ref (G.2.1 0)), (1, .int a0), (2, .int a1)]) (by decide +kernel) rfl (Nat.le_of_ble_eq_true rfl) rfl ?_
  intro p e s m below meth c ls X hl hP
  obtain ⟨hx, hb, hml, hown, hts, -, -, hT, hZ, -⟩ := id X
  have hS : va_S (gw_A G s.heap.size) s.heap s.heap [] := va_S.rf
  unfold f_X8_needConditions at h
  refine lv_aload_n hx hb dX8_needConditions_0 rfl (lv_at hl 0 rfl) ?_
  refine lv_iload_n hx hb dX8_needConditions_1 rfl (lv_at hl 1 rfl) ?_
  obtain ⟨q2, gq2, h⟩ := Option.bind_eq_some_iff.mp h
  refine gw_cx X h (gw_xV_ (C := RX8) X hP hS (gc_X8_needCondition l hfl G a0 σ _ gq2) gk_X8_needCondition gv_645 ⟨gv_647, gv_s8⟩ (va_recv hT.2.1 hP (ci := 10) (q0 := 0) rfl rfl) rfl rfl (Nat.le_of_ble_eq_true rfl) hl.1 ⟨rfl, rfl⟩ ⟨Nat.le_of_ble_eq_true rfl, Nat.le_of_ble_eq_true rfl⟩ ⟨Nat.le_of_ble_eq_true rfl, Nat.le_of_ble_eq_true rfl⟩ dX8_needConditions_2) hS (Nat.le_of_ble_eq_true rfl) (Nat.le_of_ble_eq_true rfl) (fun u1 H locs h hP hS => ?_)
  refine lv_aload_n hx hb dX8_needConditions_5 rfl (lv_at hl 0 rfl) ?_
  refine lv_iload_n hx hb dX8_needConditions_6 rfl (lv_at hl 2 rfl) ?_
  obtain ⟨q4, gq4, h⟩ := Option.bind_eq_some_iff.mp h
  refine gw_cx X h (gw_xV_ (C := RX8) X hP hS (gc_X8_needCondition l hfl G a1 u1 _ gq4) gk_X8_needCondition gv_645 ⟨gv_647, gv_s8⟩ (va_recv hT.2.1 hP (ci := 10) (q0 := 0) rfl rfl) rfl rfl (Nat.le_of_ble_eq_true rfl) hl.1 ⟨rfl, rfl⟩ ⟨Nat.le_of_ble_eq_true rfl, Nat.le_of_ble_eq_true rfl⟩ ⟨Nat.le_of_ble_eq_true rfl, Nat.le_of_ble_eq_true rfl⟩ dX8_needConditions_7) hS (Nat.le_of_ble_eq_true rfl) (Nat.le_of_ble_eq_true rfl) (fun u3 H locs h hP hS => ?_)
  exact gw_xrv X hP hS (Nat.le_of_ble_eq_true rfl) (Nat.le_of_ble_eq_true rfl) h dX8_needConditions_10
def f_X8_needSet (a0 : Int32) (σ : gw_S) : Option ((Unit ⊕ String) × gw_S) := ((f_X3_all  σ).bind fun p1 => ((f_X8_isPart a0 p1.1 p1.2).bind fun p2 => (if p2.1 = 0 then (some (Sum.inr "java/lang/IllegalArgumentException", p2.2)) else (some (Sum.inl (), p2.2)))))
set_option maxHeartbeats 4000000 in
set_option maxRecDepth 100000 in
theorem gc_X8_needSet (l : Launch) (hfl : l.stackTraces = false) (G : gw_G) (a0 : Int32) (σ : gw_S) (o : ((Unit ⊕ String) × gw_S)) (h : f_X8_needSet a0 σ = some o) : gw_N (fun sz => gw_xV G sz o) (fun sz => gw_XC G sz o) 1 l yX8_needSet cX8_needSet 2 none { frames := 6, cells := 1, slots := 6, locals := 82 } G [.ref (G.2.1 0), .int a0] σ := by
  refine gw_enx (own := RX8) (lv := [(0, .ref (G.2.1 0)), (1, .int a0)]) (by decide +kernel) rfl (Nat.le_of_ble_eq_true rfl) rfl ?_
  intro p e s m below meth c ls X hl hP
  obtain ⟨hx, hb, hml, hown, hts, -, -, hT, hZ, -⟩ := id X
  have hS : va_S (gw_A G s.heap.size) s.heap s.heap [] := va_S.rf
  unfold f_X8_needSet at h
  refine lv_iload_n hx hb dX8_needSet_0 rfl (lv_at hl 1 rfl) ?_
  refine lv_aload_n hx hb dX8_needSet_1 rfl (lv_at hl 0 rfl) ?_
  refine va_get (D := G.1) (ci := 10) (v := .ref (G.2.1 1)) (C := RX8) (T := TX8) (N := 7) hx hb hts gx_X8 hown hT.2.1 hP 0 rfl rfl 0 (by decide) (hts _ gv_214) (fun _ h9 => h9) rfl dX8_needSet_2 ?_
  obtain ⟨p1, gp1, h⟩ := Option.bind_eq_some_iff.mp h
  refine gw_ci (gw_rV (C := RX3) X hP hS (gc_X3_all l G  σ _ gp1) gk_X3_all gv_721 ⟨gv_371, gv_372⟩ (va_recv hT.2.1 hP (ci := 6) (q0 := 1) rfl rfl) rfl rfl (Nat.le_of_ble_eq_true rfl) hl.1 ⟨rfl, rfl⟩ ⟨Nat.le_of_ble_eq_true rfl, Nat.le_of_ble_eq_true rfl⟩ ⟨Nat.le_of_ble_eq_true rfl, Nat.le_of_ble_eq_true rfl⟩ dX8_needSet_5) hS (fun H locs hP hS => ?_)
  obtain ⟨p2, gp2, h⟩ := Option.bind_eq_some_iff.mp h
  refine gw_cz (gw_rS X hP hS (gc_X8_isPart l G a0 p1.1 p1.2 _ gp2) gk_X8_isPart gv_487 gv_392 rfl rfl (Nat.le_of_ble_eq_true rfl) hl.1 ⟨rfl, rfl⟩ ⟨Nat.le_of_ble_eq_true rfl, Nat.le_of_ble_eq_true rfl⟩ ⟨Nat.le_of_ble_eq_true rfl, Nat.le_of_ble_eq_true rfl⟩ dX8_needSet_8) hS (fun H locs hb_p2 hP hS => ?_)
  refine lv_if_ne (tgt := 25) hx hb dX8_needSet_11 (by decide) (fun c => ?_) (fun c => ?_)
  · have h := (if_neg c).symm.trans h
    exact gw_xrv X hP hS (Nat.le_of_ble_eq_true rfl) (Nat.le_of_ble_eq_true rfl) h dX8_needSet_25
  · have h := (if_pos c).symm.trans h
    exact gw_thrW X hP hS hfl ge_X8_143_147 (i := 3) rfl h hl.1 dX8_needSet_14 dX8_needSet_17 dX8_needSet_18 dX8_needSet_21 dX8_needSet_24 ⟨Nat.le_of_ble_eq_true rfl, Nat.le_of_ble_eq_true rfl⟩ ⟨Nat.le_of_ble_eq_true rfl, Nat.le_of_ble_eq_true rfl⟩ (Nat.le_of_ble_eq_true rfl) (Nat.le_of_ble_eq_true rfl)
def f_X8_needWorld (a0 : Int32) (σ : gw_S) : Option ((Unit ⊕ String) × gw_S) := ((f_X3_ends  σ).bind fun p1 => ((f_X8_contains p1.1 a0 p1.2).bind fun p2 => (if p2.1 = 0 then (some (Sum.inr "java/lang/IllegalArgumentException", p2.2)) else (some (Sum.inl (), p2.2)))))
set_option maxHeartbeats 4000000 in
set_option maxRecDepth 100000 in
theorem gc_X8_needWorld (l : Launch) (hfl : l.stackTraces = false) (G : gw_G) (a0 : Int32) (σ : gw_S) (o : ((Unit ⊕ String) × gw_S)) (h : f_X8_needWorld a0 σ = some o) : gw_N (fun sz => gw_xV G sz o) (fun sz => gw_XC G sz o) 1 l yX8_needWorld cX8_needWorld 2 none { frames := 6, cells := 1, slots := 6, locals := 82 } G [.ref (G.2.1 0), .int a0] σ := by
  refine gw_enx (own := RX8) (lv := [(0, .ref (G.2.1 0)), (1, .int a0)]) (by decide +kernel) rfl (Nat.le_of_ble_eq_true rfl) rfl ?_
  intro p e s m below meth c ls X hl hP
  obtain ⟨hx, hb, hml, hown, hts, -, -, hT, hZ, -⟩ := id X
  have hS : va_S (gw_A G s.heap.size) s.heap s.heap [] := va_S.rf
  unfold f_X8_needWorld at h
  refine lv_aload_n hx hb dX8_needWorld_0 rfl (lv_at hl 0 rfl) ?_
  refine va_get (D := G.1) (ci := 10) (v := .ref (G.2.1 1)) (C := RX8) (T := TX8) (N := 7) hx hb hts gx_X8 hown hT.2.1 hP 0 rfl rfl 0 (by decide) (hts _ gv_214) (fun _ h9 => h9) rfl dX8_needWorld_1 ?_
  obtain ⟨p1, gp1, h⟩ := Option.bind_eq_some_iff.mp h
  refine gw_ci (gw_rV (C := RX3) X hP hS (gc_X3_ends l G  σ _ gp1) gk_X3_ends gv_240 ⟨gv_241, gv_242⟩ (va_recv hT.2.1 hP (ci := 6) (q0 := 1) rfl rfl) rfl rfl (Nat.le_of_ble_eq_true rfl) hl.1 ⟨rfl, rfl⟩ ⟨Nat.le_of_ble_eq_true rfl, Nat.le_of_ble_eq_true rfl⟩ ⟨Nat.le_of_ble_eq_true rfl, Nat.le_of_ble_eq_true rfl⟩ dX8_needWorld_4) hS (fun H locs hP hS => ?_)
  refine lv_iload_n hx hb dX8_needWorld_7 rfl (lv_at hl 1 rfl) ?_
  obtain ⟨p2, gp2, h⟩ := Option.bind_eq_some_iff.mp h
  refine gw_cz (gw_rS X hP hS (gc_X8_contains l G p1.1 a0 p1.2 _ gp2) gk_X8_contains gv_485 gv_278 rfl rfl (Nat.le_of_ble_eq_true rfl) hl.1 ⟨rfl, rfl⟩ ⟨Nat.le_of_ble_eq_true rfl, Nat.le_of_ble_eq_true rfl⟩ ⟨Nat.le_of_ble_eq_true rfl, Nat.le_of_ble_eq_true rfl⟩ dX8_needWorld_8) hS (fun H locs hb_p2 hP hS => ?_)
  refine lv_if_ne (tgt := 25) hx hb dX8_needWorld_11 (by decide) (fun c => ?_) (fun c => ?_)
  · have h := (if_neg c).symm.trans h
    exact gw_xrv X hP hS (Nat.le_of_ble_eq_true rfl) (Nat.le_of_ble_eq_true rfl) h dX8_needWorld_25
  · have h := (if_pos c).symm.trans h
    exact gw_thrW X hP hS hfl ge_X8_143_147 (i := 4) rfl h hl.1 dX8_needWorld_14 dX8_needWorld_17 dX8_needWorld_18 dX8_needWorld_21 dX8_needWorld_24 ⟨Nat.le_of_ble_eq_true rfl, Nat.le_of_ble_eq_true rfl⟩ ⟨Nat.le_of_ble_eq_true rfl, Nat.le_of_ble_eq_true rfl⟩ (Nat.le_of_ble_eq_true rfl) (Nat.le_of_ble_eq_true rfl)
def f_X8_needName (a0 : Int32) (σ : gw_S) : Option ((Unit ⊕ String) × gw_S) := ((f_X2_knows a0 σ).bind fun p1 => (if p1.1 = 0 then (some (Sum.inr "java/lang/IndexOutOfBoundsException", p1.2)) else (some (Sum.inl (), p1.2))))
set_option maxHeartbeats 4000000 in
set_option maxRecDepth 100000 in
theorem gc_X8_needName (l : Launch) (hfl : l.stackTraces = false) (G : gw_G) (a0 : Int32) (σ : gw_S) (o : ((Unit ⊕ String) × gw_S)) (h : f_X8_needName a0 σ = some o) : gw_N (fun sz => gw_xV G sz o) (fun sz => gw_XC G sz o) 1 l yX8_needName cX8_needName 2 none { frames := 6, cells := 1, slots := 6, locals := 82 } G [.ref (G.2.1 0), .int a0] σ := by
  refine gw_enx (own := RX8) (lv := [(0, .ref (G.2.1 0)), (1, .int a0)]) (by decide +kernel) rfl (Nat.le_of_ble_eq_true rfl) rfl ?_
  intro p e s m below meth c ls X hl hP
  obtain ⟨hx, hb, hml, hown, hts, -, -, hT, hZ, -⟩ := id X
  have hS : va_S (gw_A G s.heap.size) s.heap s.heap [] := va_S.rf
  unfold f_X8_needName at h
  refine lv_aload_n hx hb dX8_needName_0 rfl (lv_at hl 0 rfl) ?_
  refine va_get (D := G.1) (ci := 10) (v := .ref (G.2.1 4)) (C := RX8) (T := TX8) (N := 7) hx hb hts gx_X8 hown hT.2.1 hP 0 rfl rfl 1 (by decide) (hts _ gv_215) (fun _ h9 => h9) rfl dX8_needName_1 ?_
  refine lv_iload_n hx hb dX8_needName_4 rfl (lv_at hl 1 rfl) ?_
  obtain ⟨p1, gp1, h⟩ := Option.bind_eq_some_iff.mp h
  refine gw_cz (gw_rV (C := RX2) X hP hS (gc_X2_knows l G a0 σ _ gp1) gk_X2_knows gv_825 ⟨gv_826, gv_827⟩ (va_recv hT.2.1 hP (ci := 5) (q0 := 4) rfl rfl) rfl rfl (Nat.le_of_ble_eq_true rfl) hl.1 ⟨rfl, rfl⟩ ⟨Nat.le_of_ble_eq_true rfl, Nat.le_of_ble_eq_true rfl⟩ ⟨Nat.le_of_ble_eq_true rfl, Nat.le_of_ble_eq_true rfl⟩ dX8_needName_5) hS (fun H locs hb_p1 hP hS => ?_)
  refine lv_if_ne (tgt := 22) hx hb dX8_needName_8 (by decide) (fun c => ?_) (fun c => ?_)
  · have h := (if_neg c).symm.trans h
    exact gw_xrv X hP hS (Nat.le_of_ble_eq_true rfl) (Nat.le_of_ble_eq_true rfl) h dX8_needName_22
  · have h := (if_pos c).symm.trans h
    exact gw_thrW X hP hS hfl ge_X8_311_315 (i := 6) rfl h hl.1 dX8_needName_11 dX8_needName_14 dX8_needName_15 dX8_needName_18 dX8_needName_21 ⟨Nat.le_of_ble_eq_true rfl, Nat.le_of_ble_eq_true rfl⟩ ⟨Nat.le_of_ble_eq_true rfl, Nat.le_of_ble_eq_true rfl⟩ (Nat.le_of_ble_eq_true rfl) (Nat.le_of_ble_eq_true rfl)
def f_X8_needRoomForNames (a0 : Int32) (σ : gw_S) : Option ((Unit ⊕ String) × gw_S) := ((f_X2_size  σ).bind fun p1 => (if (p1.1 + a0) ≤ (12 : Int32) then (some (Sum.inl (), p1.2)) else (some (Sum.inr "java/lang/IllegalStateException", p1.2))))
set_option maxHeartbeats 4000000 in
set_option maxRecDepth 100000 in
theorem gc_X8_needRoomForNames (l : Launch) (hfl : l.stackTraces = false) (G : gw_G) (a0 : Int32) (σ : gw_S) (o : ((Unit ⊕ String) × gw_S)) (h : f_X8_needRoomForNames a0 σ = some o) : gw_N (fun sz => gw_xV G sz o) (fun sz => gw_XC G sz o) 1 l yX8_needRoomForNames cX8_needRoomForNames 2 none { frames := 6, cells := 1, slots := 6, locals := 82 } G [.ref (G.2.1 0), .int a0] σ := by
  refine gw_enx (own := RX8) (lv := [(0, .ref (G.2.1 0)), (1, .int a0)]) (by decide +kernel) rfl (Nat.le_of_ble_eq_true rfl) rfl ?_
  intro p e s m below meth c ls X hl hP
  obtain ⟨hx, hb, hml, hown, hts, -, -, hT, hZ, -⟩ := id X
  have hS : va_S (gw_A G s.heap.size) s.heap s.heap [] := va_S.rf
  unfold f_X8_needRoomForNames at h
  refine lv_aload_n hx hb dX8_needRoomForNames_0 rfl (lv_at hl 0 rfl) ?_
  refine va_get (D := G.1) (ci := 10) (v := .ref (G.2.1 4)) (C := RX8) (T := TX8) (N := 7) hx hb hts gx_X8 hown hT.2.1 hP 0 rfl rfl 1 (by decide) (hts _ gv_215) (fun _ h9 => h9) rfl dX8_needRoomForNames_1 ?_
  obtain ⟨p1, gp1, h⟩ := Option.bind_eq_some_iff.mp h
  refine gw_ci (gw_rV (C := RX2) X hP hS (gc_X2_size l G  σ _ gp1) gk_X2_size gv_303 ⟨gv_304, gv_305⟩ (va_recv hT.2.1 hP (ci := 5) (q0 := 4) rfl rfl) rfl rfl (Nat.le_of_ble_eq_true rfl) hl.1 ⟨rfl, rfl⟩ ⟨Nat.le_of_ble_eq_true rfl, Nat.le_of_ble_eq_true rfl⟩ ⟨Nat.le_of_ble_eq_true rfl, Nat.le_of_ble_eq_true rfl⟩ dX8_needRoomForNames_4) hS (fun H locs hP hS => ?_)
  refine lv_iload_n hx hb dX8_needRoomForNames_7 rfl (lv_at hl 1 rfl) ?_
  refine lv_iadd hx hb dX8_needRoomForNames_8 ?_
  refine lv_bipush (v := 12) hx hb dX8_needRoomForNames_9 (by decide) ?_
  refine lv_icmp_le (tgt := 25) hx hb dX8_needRoomForNames_11 (by decide) (fun c => ?_) (fun c => ?_)
  · have h := (if_pos c).symm.trans h
    exact gw_xrv X hP hS (Nat.le_of_ble_eq_true rfl) (Nat.le_of_ble_eq_true rfl) h dX8_needRoomForNames_25
  · have h := (if_neg c).symm.trans h
    exact gw_thrW X hP hS hfl ge_X8_64_68 (i := 5) rfl h hl.1 dX8_needRoomForNames_14 dX8_needRoomForNames_17 dX8_needRoomForNames_18 dX8_needRoomForNames_21 dX8_needRoomForNames_24 ⟨Nat.le_of_ble_eq_true rfl, Nat.le_of_ble_eq_true rfl⟩ ⟨Nat.le_of_ble_eq_true rfl, Nat.le_of_ble_eq_true rfl⟩ (Nat.le_of_ble_eq_true rfl) (Nat.le_of_ble_eq_true rfl)
def f_X8_needTerm (a0 : Int32) (σ : gw_S) : Option ((Unit ⊕ String) × gw_S) := ((f_X2_knows a0 σ).bind fun p1 => (if p1.1 = 0 then ((f_X8_isLetter a0 p1.2).bind fun p2 => (if p2.1 = 0 then (some (Sum.inr "java/lang/IllegalArgumentException", p2.2)) else (some (Sum.inl (), p2.2)))) else (some (Sum.inl (), p1.2))))
set_option maxHeartbeats 4000000 in
set_option maxRecDepth 100000 in
theorem gc_X8_needTerm (l : Launch) (hfl : l.stackTraces = false) (G : gw_G) (a0 : Int32) (σ : gw_S) (o : ((Unit ⊕ String) × gw_S)) (h : f_X8_needTerm a0 σ = some o) : gw_N (fun sz => gw_xV G sz o) (fun sz => gw_XC G sz o) 1 l yX8_needTerm cX8_needTerm 2 none { frames := 6, cells := 1, slots := 6, locals := 82 } G [.ref (G.2.1 0), .int a0] σ := by
  refine gw_enx (own := RX8) (lv := [(0, .ref (G.2.1 0)), (1, .int a0)]) (by decide +kernel) rfl (Nat.le_of_ble_eq_true rfl) rfl ?_
  intro p e s m below meth c ls X hl hP
  obtain ⟨hx, hb, hml, hown, hts, -, -, hT, hZ, -⟩ := id X
  have hS : va_S (gw_A G s.heap.size) s.heap s.heap [] := va_S.rf
  unfold f_X8_needTerm at h
  refine lv_aload_n hx hb dX8_needTerm_0 rfl (lv_at hl 0 rfl) ?_
  refine va_get (D := G.1) (ci := 10) (v := .ref (G.2.1 4)) (C := RX8) (T := TX8) (N := 7) hx hb hts gx_X8 hown hT.2.1 hP 0 rfl rfl 1 (by decide) (hts _ gv_215) (fun _ h9 => h9) rfl dX8_needTerm_1 ?_
  refine lv_iload_n hx hb dX8_needTerm_4 rfl (lv_at hl 1 rfl) ?_
  obtain ⟨p1, gp1, h⟩ := Option.bind_eq_some_iff.mp h
  refine gw_cz (gw_rV (C := RX2) X hP hS (gc_X2_knows l G a0 σ _ gp1) gk_X2_knows gv_825 ⟨gv_826, gv_827⟩ (va_recv hT.2.1 hP (ci := 5) (q0 := 4) rfl rfl) rfl rfl (Nat.le_of_ble_eq_true rfl) hl.1 ⟨rfl, rfl⟩ ⟨Nat.le_of_ble_eq_true rfl, Nat.le_of_ble_eq_true rfl⟩ ⟨Nat.le_of_ble_eq_true rfl, Nat.le_of_ble_eq_true rfl⟩ dX8_needTerm_5) hS (fun H locs hb_p1 hP hS => ?_)
  refine lv_if_ne (tgt := 29) hx hb dX8_needTerm_8 (by decide) (fun c => ?_) (fun c => ?_)
  · have h := (if_neg c).symm.trans h
    exact gw_xrv X hP hS (Nat.le_of_ble_eq_true rfl) (Nat.le_of_ble_eq_true rfl) h dX8_needTerm_29
  · have h := (if_pos c).symm.trans h
    refine lv_iload_n hx hb dX8_needTerm_11 rfl (lv_at hl 1 rfl) ?_
    obtain ⟨p2, gp2, h⟩ := Option.bind_eq_some_iff.mp h
    refine gw_cz (gw_rS X hP hS (gc_X8_isLetter l G a0 p1.2 _ gp2) gk_X8_isLetter gv_975 gv_460 rfl rfl (Nat.le_of_ble_eq_true rfl) hl.1 ⟨rfl, rfl⟩ ⟨Nat.le_of_ble_eq_true rfl, Nat.le_of_ble_eq_true rfl⟩ ⟨Nat.le_of_ble_eq_true rfl, Nat.le_of_ble_eq_true rfl⟩ dX8_needTerm_12) hS (fun H locs hb_p2 hP hS => ?_)
    refine lv_if_ne (tgt := 29) hx hb dX8_needTerm_15 (by decide) (fun c => ?_) (fun c => ?_)
    · have h := (if_neg c).symm.trans h
      exact gw_xrv X hP hS (Nat.le_of_ble_eq_true rfl) (Nat.le_of_ble_eq_true rfl) h dX8_needTerm_29
    · have h := (if_pos c).symm.trans h
      exact gw_thrW X hP hS hfl ge_X8_143_147 (i := 16) rfl h hl.1 dX8_needTerm_18 dX8_needTerm_21 dX8_needTerm_22 dX8_needTerm_25 dX8_needTerm_28 ⟨Nat.le_of_ble_eq_true rfl, Nat.le_of_ble_eq_true rfl⟩ ⟨Nat.le_of_ble_eq_true rfl, Nat.le_of_ble_eq_true rfl⟩ (Nat.le_of_ble_eq_true rfl) (Nat.le_of_ble_eq_true rfl)
def f_X8_needFormula (a0 : Int32) (σ : gw_S) : Option ((Unit ⊕ String) × gw_S) := ((f_X1_knows a0 σ).bind fun p1 => (if p1.1 = 0 then (some (Sum.inr "java/lang/IndexOutOfBoundsException", p1.2)) else (some (Sum.inl (), p1.2))))
set_option maxHeartbeats 4000000 in
set_option maxRecDepth 100000 in
theorem gc_X8_needFormula (l : Launch) (hfl : l.stackTraces = false) (G : gw_G) (a0 : Int32) (σ : gw_S) (o : ((Unit ⊕ String) × gw_S)) (h : f_X8_needFormula a0 σ = some o) : gw_N (fun sz => gw_xV G sz o) (fun sz => gw_XC G sz o) 1 l yX8_needFormula cX8_needFormula 2 none { frames := 6, cells := 1, slots := 6, locals := 82 } G [.ref (G.2.1 0), .int a0] σ := by
  refine gw_enx (own := RX8) (lv := [(0, .ref (G.2.1 0)), (1, .int a0)]) (by decide +kernel) rfl (Nat.le_of_ble_eq_true rfl) rfl ?_
  intro p e s m below meth c ls X hl hP
  obtain ⟨hx, hb, hml, hown, hts, -, -, hT, hZ, -⟩ := id X
  have hS : va_S (gw_A G s.heap.size) s.heap s.heap [] := va_S.rf
  unfold f_X8_needFormula at h
  refine lv_aload_n hx hb dX8_needFormula_0 rfl (lv_at hl 0 rfl) ?_
  refine va_get (D := G.1) (ci := 10) (v := .ref (G.2.1 11)) (C := RX8) (T := TX8) (N := 7) hx hb hts gx_X8 hown hT.2.1 hP 0 rfl rfl 2 (by decide) (hts _ gv_216) (fun _ h9 => h9) rfl dX8_needFormula_1 ?_
  refine lv_iload_n hx hb dX8_needFormula_4 rfl (lv_at hl 1 rfl) ?_
  obtain ⟨p1, gp1, h⟩ := Option.bind_eq_some_iff.mp h
  refine gw_cz (gw_rV (C := RX1) X hP hS (gc_X1_knows l G a0 σ _ gp1) gk_X1_knows gv_1001 ⟨gv_440, gv_441⟩ (va_recv hT.2.1 hP (ci := 4) (q0 := 11) rfl rfl) rfl rfl (Nat.le_of_ble_eq_true rfl) hl.1 ⟨rfl, rfl⟩ ⟨Nat.le_of_ble_eq_true rfl, Nat.le_of_ble_eq_true rfl⟩ ⟨Nat.le_of_ble_eq_true rfl, Nat.le_of_ble_eq_true rfl⟩ dX8_needFormula_5) hS (fun H locs hb_p1 hP hS => ?_)
  refine lv_if_ne (tgt := 22) hx hb dX8_needFormula_8 (by decide) (fun c => ?_) (fun c => ?_)
  · have h := (if_neg c).symm.trans h
    exact gw_xrv X hP hS (Nat.le_of_ble_eq_true rfl) (Nat.le_of_ble_eq_true rfl) h dX8_needFormula_22
  · have h := (if_pos c).symm.trans h
    exact gw_thrW X hP hS hfl ge_X8_311_315 (i := 18) rfl h hl.1 dX8_needFormula_11 dX8_needFormula_14 dX8_needFormula_15 dX8_needFormula_18 dX8_needFormula_21 ⟨Nat.le_of_ble_eq_true rfl, Nat.le_of_ble_eq_true rfl⟩ ⟨Nat.le_of_ble_eq_true rfl, Nat.le_of_ble_eq_true rfl⟩ (Nat.le_of_ble_eq_true rfl) (Nat.le_of_ble_eq_true rfl)
def f_X8_needClosed (a0 : Int32) (σ : gw_S) : Option ((Unit ⊕ String) × gw_S) := ((f_X8_needFormula a0 σ).bind fun q2 => gw_bx q2 fun u1 => ((f_X1_open a0 u1).bind fun p3 => (if p3.1 = 0 then (some (Sum.inl (), p3.2)) else (some (Sum.inr "java/lang/UnsupportedOperationException", p3.2)))))
set_option maxHeartbeats 4000000 in
set_option maxRecDepth 100000 in
theorem gc_X8_needClosed (l : Launch) (hfl : l.stackTraces = false) (G : gw_G) (a0 : Int32) (σ : gw_S) (o : ((Unit ⊕ String) × gw_S)) (h : f_X8_needClosed a0 σ = some o) : gw_N (fun sz => gw_xV G sz o) (fun sz => gw_XC G sz o) 2 l yX8_needClosed cX8_needClosed 2 none { frames := 7, cells := 2, slots := 12, locals := 103 } G [.ref (G.2.1 0), .int a0] σ := by
  refine gw_enx (own := RX8) (lv := [(0, .ref (G.2.1 0)), (1, .int a0)]) (by decide +kernel) rfl (Nat.le_of_ble_eq_true rfl) rfl ?_
  intro p e s m below meth c ls X hl hP
  obtain ⟨hx, hb, hml, hown, hts, -, -, hT, hZ, -⟩ := id X
  have hS : va_S (gw_A G s.heap.size) s.heap s.heap [] := va_S.rf
  unfold f_X8_needClosed at h
  refine lv_aload_n hx hb dX8_needClosed_0 rfl (lv_at hl 0 rfl) ?_
  refine lv_iload_n hx hb dX8_needClosed_1 rfl (lv_at hl 1 rfl) ?_
  obtain ⟨q2, gq2, h⟩ := Option.bind_eq_some_iff.mp h
  refine gw_cx X h (gw_xV_ (C := RX8) X hP hS (gc_X8_needFormula l hfl G a0 σ _ gq2) gk_X8_needFormula gv_997 ⟨gv_999, gv_s20⟩ (va_recv hT.2.1 hP (ci := 10) (q0 := 0) rfl rfl) rfl rfl (Nat.le_of_ble_eq_true rfl) hl.1 ⟨rfl, rfl⟩ ⟨Nat.le_of_ble_eq_true rfl, Nat.le_of_ble_eq_true rfl⟩ ⟨Nat.le_of_ble_eq_true rfl, Nat.le_of_ble_eq_true rfl⟩ dX8_needClosed_2) hS (Nat.le_of_ble_eq_true rfl) (Nat.le_of_ble_eq_true rfl) (fun u1 H locs h hP hS => ?_)
  refine lv_aload_n hx hb dX8_needClosed_5 rfl (lv_at hl 0 rfl) ?_
  refine va_get (D := G.1) (ci := 10) (v := .ref (G.2.1 11)) (C := RX8) (T := TX8) (N := 7) hx hb hts gx_X8 hown hT.2.1 hP 0 rfl rfl 2 (by decide) (hts _ gv_216) (fun _ h9 => h9) rfl dX8_needClosed_6 ?_
  refine lv_iload_n hx hb dX8_needClosed_9 rfl (lv_at hl 1 rfl) ?_
  obtain ⟨p3, gp3, h⟩ := Option.bind_eq_some_iff.mp h
  refine gw_ci (gw_rV (C := RX1) X hP hS (gc_X1_open l G a0 u1 _ gp3) gk_X1_open gv_332 ⟨gv_333, gv_334⟩ (va_recv hT.2.1 hP (ci := 4) (q0 := 11) rfl rfl) rfl rfl (Nat.le_of_ble_eq_true rfl) hl.1 ⟨rfl, rfl⟩ ⟨Nat.le_of_ble_eq_true rfl, Nat.le_of_ble_eq_true rfl⟩ ⟨Nat.le_of_ble_eq_true rfl, Nat.le_of_ble_eq_true rfl⟩ dX8_needClosed_10) hS (fun H locs hP hS => ?_)
  refine lv_if_eq (tgt := 27) hx hb dX8_needClosed_13 (by decide) (fun c => ?_) (fun c => ?_)
  · have h := (if_pos c).symm.trans h
    exact gw_xrv X hP hS (Nat.le_of_ble_eq_true rfl) (Nat.le_of_ble_eq_true rfl) h dX8_needClosed_27
  · have h := (if_neg c).symm.trans h
    exact gw_thrW X hP hS hfl ge_X8_82_86 (i := 21) rfl h hl.1 dX8_needClosed_16 dX8_needClosed_19 dX8_needClosed_20 dX8_needClosed_23 dX8_needClosed_26 ⟨Nat.le_of_ble_eq_true rfl, Nat.le_of_ble_eq_true rfl⟩ ⟨Nat.le_of_ble_eq_true rfl, Nat.le_of_ble_eq_true rfl⟩ (Nat.le_of_ble_eq_true rfl) (Nat.le_of_ble_eq_true rfl)
def f_X8_needDepth (a0 : Int32) (σ : gw_S) : Option ((Unit ⊕ String) × gw_S) := (if a0 ≤ (5 : Int32) then (some (Sum.inl (), σ)) else (some (Sum.inr "java/lang/UnsupportedOperationException", σ)))
set_option maxHeartbeats 4000000 in
set_option maxRecDepth 100000 in
theorem gc_X8_needDepth (l : Launch) (hfl : l.stackTraces = false) (G : gw_G) (a0 : Int32) (σ : gw_S) (o : ((Unit ⊕ String) × gw_S)) (h : f_X8_needDepth a0 σ = some o) : gw_N (fun sz => gw_xV G sz o) (fun sz => gw_XC G sz o) 1 l yX8_needDepth cX8_needDepth 1 none { frames := 6, cells := 1, slots := 6, locals := 82 } G [.int a0] σ := by
  refine gw_enx (own := RX8) (lv := [(0, .int a0)]) (by decide +kernel) rfl (Nat.le_of_ble_eq_true rfl) rfl ?_
  intro p e s m below meth c ls X hl hP
  obtain ⟨hx, hb, hml, hown, hts, -, -, hT, hZ, -⟩ := id X
  have hS : va_S (gw_A G s.heap.size) s.heap s.heap [] := va_S.rf
  unfold f_X8_needDepth at h
  refine lv_iload_n hx hb dX8_needDepth_0 rfl (lv_at hl 0 rfl) ?_
  refine lv_iconst (v := 5) hx hb dX8_needDepth_1 (by decide) ?_
  refine lv_icmp_le (tgt := 16) hx hb dX8_needDepth_2 (by decide) (fun c => ?_) (fun c => ?_)
  · have h := (if_pos c).symm.trans h
    exact gw_xrv X hP hS (Nat.le_of_ble_eq_true rfl) (Nat.le_of_ble_eq_true rfl) h dX8_needDepth_16
  · have h := (if_neg c).symm.trans h
    exact gw_thrW X hP hS hfl ge_X8_82_86 (i := 19) rfl h hl.1 dX8_needDepth_5 dX8_needDepth_8 dX8_needDepth_9 dX8_needDepth_12 dX8_needDepth_15 ⟨Nat.le_of_ble_eq_true rfl, Nat.le_of_ble_eq_true rfl⟩ ⟨Nat.le_of_ble_eq_true rfl, Nat.le_of_ble_eq_true rfl⟩ (Nat.le_of_ble_eq_true rfl) (Nat.le_of_ble_eq_true rfl)
def f_X8_needRoomForFormula (σ : gw_S) : Option ((Unit ⊕ String) × gw_S) := ((f_X1_size  σ).bind fun p1 => (if p1.1 < (16 : Int32) then (some (Sum.inl (), p1.2)) else (some (Sum.inr "java/lang/IllegalStateException", p1.2))))
set_option maxHeartbeats 4000000 in
set_option maxRecDepth 100000 in
theorem gc_X8_needRoomForFormula (l : Launch) (hfl : l.stackTraces = false) (G : gw_G) (σ : gw_S) (o : ((Unit ⊕ String) × gw_S)) (h : f_X8_needRoomForFormula σ = some o) : gw_N (fun sz => gw_xV G sz o) (fun sz => gw_XC G sz o) 1 l yX8_needRoomForFormula cX8_needRoomForFormula 1 none { frames := 6, cells := 1, slots := 6, locals := 82 } G [.ref (G.2.1 0)] σ := by
  refine gw_enx (own := RX8) (lv := [(0, .ref (G.2.1 0))]) (by decide +kernel) rfl (Nat.le_of_ble_eq_true rfl) rfl ?_
  intro p e s m below meth c ls X hl hP
  obtain ⟨hx, hb, hml, hown, hts, -, -, hT, hZ, -⟩ := id X
  have hS : va_S (gw_A G s.heap.size) s.heap s.heap [] := va_S.rf
  unfold f_X8_needRoomForFormula at h
  refine lv_aload_n hx hb dX8_needRoomForFormula_0 rfl (lv_at hl 0 rfl) ?_
  refine va_get (D := G.1) (ci := 10) (v := .ref (G.2.1 11)) (C := RX8) (T := TX8) (N := 7) hx hb hts gx_X8 hown hT.2.1 hP 0 rfl rfl 2 (by decide) (hts _ gv_216) (fun _ h9 => h9) rfl dX8_needRoomForFormula_1 ?_
  obtain ⟨p1, gp1, h⟩ := Option.bind_eq_some_iff.mp h
  refine gw_ci (gw_rV (C := RX1) X hP hS (gc_X1_size l G  σ _ gp1) gk_X1_size gv_324 ⟨gv_325, gv_326⟩ (va_recv hT.2.1 hP (ci := 4) (q0 := 11) rfl rfl) rfl rfl (Nat.le_of_ble_eq_true rfl) hl.1 ⟨rfl, rfl⟩ ⟨Nat.le_of_ble_eq_true rfl, Nat.le_of_ble_eq_true rfl⟩ ⟨Nat.le_of_ble_eq_true rfl, Nat.le_of_ble_eq_true rfl⟩ dX8_needRoomForFormula_4) hS (fun H locs hP hS => ?_)
  refine lv_bipush (v := 16) hx hb dX8_needRoomForFormula_7 (by decide) ?_
  refine lv_icmp_lt (tgt := 23) hx hb dX8_needRoomForFormula_9 (by decide) (fun c => ?_) (fun c => ?_)
  · have h := (if_pos c).symm.trans h
    exact gw_xrv X hP hS (Nat.le_of_ble_eq_true rfl) (Nat.le_of_ble_eq_true rfl) h dX8_needRoomForFormula_23
  · have h := (if_neg c).symm.trans h
    exact gw_thrW X hP hS hfl ge_X8_64_68 (i := 17) rfl h hl.1 dX8_needRoomForFormula_12 dX8_needRoomForFormula_15 dX8_needRoomForFormula_16 dX8_needRoomForFormula_19 dX8_needRoomForFormula_22 ⟨Nat.le_of_ble_eq_true rfl, Nat.le_of_ble_eq_true rfl⟩ ⟨Nat.le_of_ble_eq_true rfl, Nat.le_of_ble_eq_true rfl⟩ (Nat.le_of_ble_eq_true rfl) (Nat.le_of_ble_eq_true rfl)
def f_X8_condition (σ : gw_S) : Option ((Int32 ⊕ String) × gw_S) := ((f_X3_size  σ).bind fun p1 => (if p1.1 < (7 : Int32) then ((f_X3_add  p1.2).bind fun p2 => (some (Sum.inl p2.1, p2.2))) else (some (Sum.inr "java/lang/IllegalStateException", p1.2))))
set_option maxHeartbeats 4000000 in
set_option maxRecDepth 100000 in
theorem gc_X8_condition (l : Launch) (hfl : l.stackTraces = false) (G : gw_G) (σ : gw_S) (o : ((Int32 ⊕ String) × gw_S)) (h : f_X8_condition σ = some o) : gw_N (fun sz => gw_xI G sz o) (fun sz => gw_XC G sz o) 1 l yX8_condition cX8_condition 1 (some .int) { frames := 6, cells := 1, slots := 6, locals := 82 } G [.ref (G.2.1 0)] σ := by
  refine gw_enx (own := RX8) (lv := [(0, .ref (G.2.1 0))]) (by decide +kernel) rfl (Nat.le_of_ble_eq_true rfl) rfl ?_
  intro p e s m below meth c ls X hl hP
  obtain ⟨hx, hb, hml, hown, hts, -, -, hT, hZ, -⟩ := id X
  have hS : va_S (gw_A G s.heap.size) s.heap s.heap [] := va_S.rf
  unfold f_X8_condition at h
  refine lv_aload_n hx hb dX8_condition_0 rfl (lv_at hl 0 rfl) ?_
  refine va_get (D := G.1) (ci := 10) (v := .ref (G.2.1 1)) (C := RX8) (T := TX8) (N := 7) hx hb hts gx_X8 hown hT.2.1 hP 0 rfl rfl 0 (by decide) (hts _ gv_214) (fun _ h9 => h9) rfl dX8_condition_1 ?_
  obtain ⟨p1, gp1, h⟩ := Option.bind_eq_some_iff.mp h
  refine gw_ci (gw_rV (C := RX3) X hP hS (gc_X3_size l G  σ _ gp1) gk_X3_size gv_258 ⟨gv_259, gv_260⟩ (va_recv hT.2.1 hP (ci := 6) (q0 := 1) rfl rfl) rfl rfl (Nat.le_of_ble_eq_true rfl) hl.1 ⟨rfl, rfl⟩ ⟨Nat.le_of_ble_eq_true rfl, Nat.le_of_ble_eq_true rfl⟩ ⟨Nat.le_of_ble_eq_true rfl, Nat.le_of_ble_eq_true rfl⟩ dX8_condition_4) hS (fun H locs hP hS => ?_)
  refine lv_bipush (v := 7) hx hb dX8_condition_7 (by decide) ?_
  refine lv_icmp_lt (tgt := 22) hx hb dX8_condition_9 (by decide) (fun c => ?_) (fun c => ?_)
  · have h := (if_pos c).symm.trans h
    refine lv_aload_n hx hb dX8_condition_22 rfl (lv_at hl 0 rfl) ?_
    refine va_get (D := G.1) (ci := 10) (v := .ref (G.2.1 1)) (C := RX8) (T := TX8) (N := 7) hx hb hts gx_X8 hown hT.2.1 hP 0 rfl rfl 0 (by decide) (hts _ gv_214) (fun _ h9 => h9) rfl dX8_condition_23 ?_
    obtain ⟨p2, gp2, h⟩ := Option.bind_eq_some_iff.mp h
    refine gw_ci (gw_rV (C := RX3) X hP hS (gc_X3_add l G  p1.2 _ gp2) gk_X3_add gv_627 ⟨gv_628, gv_629⟩ (va_recv hT.2.1 hP (ci := 6) (q0 := 1) rfl rfl) rfl rfl (Nat.le_of_ble_eq_true rfl) hl.1 ⟨rfl, rfl⟩ ⟨Nat.le_of_ble_eq_true rfl, Nat.le_of_ble_eq_true rfl⟩ ⟨Nat.le_of_ble_eq_true rfl, Nat.le_of_ble_eq_true rfl⟩ dX8_condition_26) hS (fun H locs hP hS => ?_)
    exact gw_xri X hP hS (Nat.le_of_ble_eq_true rfl) (Nat.le_of_ble_eq_true rfl) h dX8_condition_29
  · have h := (if_neg c).symm.trans h
    exact gw_thr X hP hS hfl ge_X8_64_68 (i := 0) rfl h hl.1 dX8_condition_12 dX8_condition_15 dX8_condition_16 dX8_condition_18 dX8_condition_21 ⟨Nat.le_of_ble_eq_true rfl, Nat.le_of_ble_eq_true rfl⟩ ⟨Nat.le_of_ble_eq_true rfl, Nat.le_of_ble_eq_true rfl⟩ (Nat.le_of_ble_eq_true rfl) (Nat.le_of_ble_eq_true rfl)
def f_X8_under (a0 : Int32) (a1 : Int32) (σ : gw_S) : Option ((Int32 ⊕ String) × gw_S) := ((f_X8_needConditions a0 a1 σ).bind fun q2 => gw_bx q2 fun u1 => ((f_X3_stands a0 a1 u1).bind fun p3 => (if p3.1 = 0 then ((f_X3_stands a1 a0 p3.2).bind fun p4 => (if p4.1 = 0 then ((f_X3_place a0 a1 p4.2).bind fun p5 => ((f_X3_pairsBelow  p5).bind fun p6 => (some (Sum.inl p6.1, p6.2)))) else (some (Sum.inr "java/lang/UnsupportedOperationException", p4.2)))) else (some (Sum.inr "java/lang/UnsupportedOperationException", p3.2)))))
set_option maxHeartbeats 4000000 in
set_option maxRecDepth 100000 in
theorem gc_X8_under (l : Launch) (hfl : l.stackTraces = false) (G : gw_G) (a0 : Int32) (a1 : Int32) (σ : gw_S) (o : ((Int32 ⊕ String) × gw_S)) (h : f_X8_under a0 a1 σ = some o) : gw_N (fun sz => gw_xI G sz o) (fun sz => gw_XC G sz o) 3 l yX8_under cX8_under 3 (some .int) { frames := 8, cells := 3, slots := 18, locals := 125 } G [.ref (G.2.1 0), .int a0, .int a1] σ := by
  refine gw_enx (own := RX8) (lv := [(0, .ref (G.2.1 0)), (1, .int a0), (2, .int a1)]) (by decide +kernel) rfl (Nat.le_of_ble_eq_true rfl) rfl ?_
  intro p e s m below meth c ls X hl hP
  obtain ⟨hx, hb, hml, hown, hts, -, -, hT, hZ, -⟩ := id X
  have hS : va_S (gw_A G s.heap.size) s.heap s.heap [] := va_S.rf
  unfold f_X8_under at h
  refine lv_aload_n hx hb dX8_under_0 rfl (lv_at hl 0 rfl) ?_
  refine lv_iload_n hx hb dX8_under_1 rfl (lv_at hl 1 rfl) ?_
  refine lv_iload_n hx hb dX8_under_2 rfl (lv_at hl 2 rfl) ?_
  obtain ⟨q2, gq2, h⟩ := Option.bind_eq_some_iff.mp h
  refine gw_cx X h (gw_xV_ (C := RX8) X hP hS (gc_X8_needConditions l hfl G a0 a1 σ _ gq2) gk_X8_needConditions gv_641 ⟨gv_643, gv_s7⟩ (va_recv hT.2.1 hP (ci := 10) (q0 := 0) rfl rfl) rfl rfl (Nat.le_of_ble_eq_true rfl) hl.1 ⟨rfl, rfl⟩ ⟨Nat.le_of_ble_eq_true rfl, Nat.le_of_ble_eq_true rfl⟩ ⟨Nat.le_of_ble_eq_true rfl, Nat.le_of_ble_eq_true rfl⟩ dX8_under_3) hS (Nat.le_of_ble_eq_true rfl) (Nat.le_of_ble_eq_true rfl) (fun u1 H locs h hP hS => ?_)
  refine lv_aload_n hx hb dX8_under_6 rfl (lv_at hl 0 rfl) ?_
  refine va_get (D := G.1) (ci := 10) (v := .ref (G.2.1 1)) (C := RX8) (T := TX8) (N := 7) hx hb hts gx_X8 hown hT.2.1 hP 0 rfl rfl 0 (by decide) (hts _ gv_214) (fun _ h9 => h9) rfl dX8_under_7 ?_
  refine lv_iload_n hx hb dX8_under_10 rfl (lv_at hl 1 rfl) ?_
  refine lv_iload_n hx hb dX8_under_11 rfl (lv_at hl 2 rfl) ?_
  obtain ⟨p3, gp3, h⟩ := Option.bind_eq_some_iff.mp h
  refine gw_cz (gw_rV (C := RX3) X hP hS (gc_X3_stands l G a0 a1 u1 _ gp3) gk_X3_stands gv_266 ⟨gv_267, gv_268⟩ (va_recv hT.2.1 hP (ci := 6) (q0 := 1) rfl rfl) rfl rfl (Nat.le_of_ble_eq_true rfl) hl.1 ⟨rfl, rfl⟩ ⟨Nat.le_of_ble_eq_true rfl, Nat.le_of_ble_eq_true rfl⟩ ⟨Nat.le_of_ble_eq_true rfl, Nat.le_of_ble_eq_true rfl⟩ dX8_under_12) hS (fun H locs hb_p3 hP hS => ?_)
  refine lv_if_ne (tgt := 30) hx hb dX8_under_15 (by decide) (fun c => ?_) (fun c => ?_)
  · have h := (if_neg c).symm.trans h
    exact gw_thr X hP hS hfl ge_X8_82_86 (i := 2) rfl h hl.1 dX8_under_30 dX8_under_33 dX8_under_34 dX8_under_36 dX8_under_39 ⟨Nat.le_of_ble_eq_true rfl, Nat.le_of_ble_eq_true rfl⟩ ⟨Nat.le_of_ble_eq_true rfl, Nat.le_of_ble_eq_true rfl⟩ (Nat.le_of_ble_eq_true rfl) (Nat.le_of_ble_eq_true rfl)
  · have h := (if_pos c).symm.trans h
    refine lv_aload_n hx hb dX8_under_18 rfl (lv_at hl 0 rfl) ?_
    refine va_get (D := G.1) (ci := 10) (v := .ref (G.2.1 1)) (C := RX8) (T := TX8) (N := 7) hx hb hts gx_X8 hown hT.2.1 hP 0 rfl rfl 0 (by decide) (hts _ gv_214) (fun _ h9 => h9) rfl dX8_under_19 ?_
    refine lv_iload_n hx hb dX8_under_22 rfl (lv_at hl 2 rfl) ?_
    refine lv_iload_n hx hb dX8_under_23 rfl (lv_at hl 1 rfl) ?_
    obtain ⟨p4, gp4, h⟩ := Option.bind_eq_some_iff.mp h
    refine gw_cz (gw_rV (C := RX3) X hP hS (gc_X3_stands l G a1 a0 p3.2 _ gp4) gk_X3_stands gv_266 ⟨gv_267, gv_268⟩ (va_recv hT.2.1 hP (ci := 6) (q0 := 1) rfl rfl) rfl rfl (Nat.le_of_ble_eq_true rfl) hl.1 ⟨rfl, rfl⟩ ⟨Nat.le_of_ble_eq_true rfl, Nat.le_of_ble_eq_true rfl⟩ ⟨Nat.le_of_ble_eq_true rfl, Nat.le_of_ble_eq_true rfl⟩ dX8_under_24) hS (fun H locs hb_p4 hP hS => ?_)
    refine lv_if_eq (tgt := 40) hx hb dX8_under_27 (by decide) (fun c => ?_) (fun c => ?_)
    · have h := (if_pos c).symm.trans h
      refine lv_aload_n hx hb dX8_under_40 rfl (lv_at hl 0 rfl) ?_
      refine va_get (D := G.1) (ci := 10) (v := .ref (G.2.1 1)) (C := RX8) (T := TX8) (N := 7) hx hb hts gx_X8 hown hT.2.1 hP 0 rfl rfl 0 (by decide) (hts _ gv_214) (fun _ h9 => h9) rfl dX8_under_41 ?_
      refine lv_iload_n hx hb dX8_under_44 rfl (lv_at hl 1 rfl) ?_
      refine lv_iload_n hx hb dX8_under_45 rfl (lv_at hl 2 rfl) ?_
      obtain ⟨p5, gp5, h⟩ := Option.bind_eq_some_iff.mp h
      refine gw_cv (gw_rV (C := RX3) X hP hS (gc_X3_place l G a0 a1 p4.2 _ gp5) gk_X3_place gv_685 ⟨gv_686, gv_687⟩ (va_recv hT.2.1 hP (ci := 6) (q0 := 1) rfl rfl) rfl rfl (Nat.le_of_ble_eq_true rfl) hl.1 ⟨rfl, rfl⟩ ⟨Nat.le_of_ble_eq_true rfl, Nat.le_of_ble_eq_true rfl⟩ ⟨Nat.le_of_ble_eq_true rfl, Nat.le_of_ble_eq_true rfl⟩ dX8_under_46) hS (fun H locs hP hS => ?_)
      refine lv_aload_n hx hb dX8_under_49 rfl (lv_at hl 0 rfl) ?_
      refine va_get (D := G.1) (ci := 10) (v := .ref (G.2.1 1)) (C := RX8) (T := TX8) (N := 7) hx hb hts gx_X8 hown hT.2.1 hP 0 rfl rfl 0 (by decide) (hts _ gv_214) (fun _ h9 => h9) rfl dX8_under_50 ?_
      obtain ⟨p6, gp6, h⟩ := Option.bind_eq_some_iff.mp h
      refine gw_ci (gw_rV (C := RX3) X hP hS (gc_X3_pairsBelow l G  p5 _ gp6) gk_X3_pairsBelow gv_690 ⟨gv_691, gv_692⟩ (va_recv hT.2.1 hP (ci := 6) (q0 := 1) rfl rfl) rfl rfl (Nat.le_of_ble_eq_true rfl) hl.1 ⟨rfl, rfl⟩ ⟨Nat.le_of_ble_eq_true rfl, Nat.le_of_ble_eq_true rfl⟩ ⟨Nat.le_of_ble_eq_true rfl, Nat.le_of_ble_eq_true rfl⟩ dX8_under_53) hS (fun H locs hP hS => ?_)
      exact gw_xri X hP hS (Nat.le_of_ble_eq_true rfl) (Nat.le_of_ble_eq_true rfl) h dX8_under_56
    · have h := (if_neg c).symm.trans h
      exact gw_thr X hP hS hfl ge_X8_82_86 (i := 2) rfl h hl.1 dX8_under_30 dX8_under_33 dX8_under_34 dX8_under_36 dX8_under_39 ⟨Nat.le_of_ble_eq_true rfl, Nat.le_of_ble_eq_true rfl⟩ ⟨Nat.le_of_ble_eq_true rfl, Nat.le_of_ble_eq_true rfl⟩ (Nat.le_of_ble_eq_true rfl) (Nat.le_of_ble_eq_true rfl)
def f_X8_isBelow (a0 : Int32) (a1 : Int32) (σ : gw_S) : Option ((Int32 ⊕ String) × gw_S) := ((f_X8_needConditions a0 a1 σ).bind fun q2 => gw_bx q2 fun u1 => ((f_X3_stands a0 a1 u1).bind fun p3 => (some (Sum.inl p3.1, p3.2))))
set_option maxHeartbeats 4000000 in
set_option maxRecDepth 100000 in
theorem gc_X8_isBelow (l : Launch) (hfl : l.stackTraces = false) (G : gw_G) (a0 : Int32) (a1 : Int32) (σ : gw_S) (o : ((Int32 ⊕ String) × gw_S)) (h : f_X8_isBelow a0 a1 σ = some o) : gw_N (fun sz => gw_xZ G sz o) (fun sz => gw_XC G sz o) 2 l yX8_isBelow cX8_isBelow 3 (some .boolean) { frames := 8, cells := 2, slots := 12, locals := 125 } G [.ref (G.2.1 0), .int a0, .int a1] σ := by
  refine gw_enx (own := RX8) (lv := [(0, .ref (G.2.1 0)), (1, .int a0), (2, .int a1)]) (by decide +kernel) rfl (Nat.le_of_ble_eq_true rfl) rfl ?_
  intro p e s m below meth c ls X hl hP
  obtain ⟨hx, hb, hml, hown, hts, -, -, hT, hZ, -⟩ := id X
  have hS : va_S (gw_A G s.heap.size) s.heap s.heap [] := va_S.rf
  unfold f_X8_isBelow at h
  refine lv_aload_n hx hb dX8_isBelow_0 rfl (lv_at hl 0 rfl) ?_
  refine lv_iload_n hx hb dX8_isBelow_1 rfl (lv_at hl 1 rfl) ?_
  refine lv_iload_n hx hb dX8_isBelow_2 rfl (lv_at hl 2 rfl) ?_
  obtain ⟨q2, gq2, h⟩ := Option.bind_eq_some_iff.mp h
  refine gw_cx X h (gw_xV_ (C := RX8) X hP hS (gc_X8_needConditions l hfl G a0 a1 σ _ gq2) gk_X8_needConditions gv_641 ⟨gv_643, gv_s7⟩ (va_recv hT.2.1 hP (ci := 10) (q0 := 0) rfl rfl) rfl rfl (Nat.le_of_ble_eq_true rfl) hl.1 ⟨rfl, rfl⟩ ⟨Nat.le_of_ble_eq_true rfl, Nat.le_of_ble_eq_true rfl⟩ ⟨Nat.le_of_ble_eq_true rfl, Nat.le_of_ble_eq_true rfl⟩ dX8_isBelow_3) hS (Nat.le_of_ble_eq_true rfl) (Nat.le_of_ble_eq_true rfl) (fun u1 H locs h hP hS => ?_)
  refine lv_aload_n hx hb dX8_isBelow_6 rfl (lv_at hl 0 rfl) ?_
  refine va_get (D := G.1) (ci := 10) (v := .ref (G.2.1 1)) (C := RX8) (T := TX8) (N := 7) hx hb hts gx_X8 hown hT.2.1 hP 0 rfl rfl 0 (by decide) (hts _ gv_214) (fun _ h9 => h9) rfl dX8_isBelow_7 ?_
  refine lv_iload_n hx hb dX8_isBelow_10 rfl (lv_at hl 1 rfl) ?_
  refine lv_iload_n hx hb dX8_isBelow_11 rfl (lv_at hl 2 rfl) ?_
  obtain ⟨p3, gp3, h⟩ := Option.bind_eq_some_iff.mp h
  refine gw_cz (gw_rV (C := RX3) X hP hS (gc_X3_stands l G a0 a1 u1 _ gp3) gk_X3_stands gv_266 ⟨gv_267, gv_268⟩ (va_recv hT.2.1 hP (ci := 6) (q0 := 1) rfl rfl) rfl rfl (Nat.le_of_ble_eq_true rfl) hl.1 ⟨rfl, rfl⟩ ⟨Nat.le_of_ble_eq_true rfl, Nat.le_of_ble_eq_true rfl⟩ ⟨Nat.le_of_ble_eq_true rfl, Nat.le_of_ble_eq_true rfl⟩ dX8_isBelow_12) hS (fun H locs hb_p3 hP hS => ?_)
  exact gw_xrz X hP hS hb_p3 (Nat.le_of_ble_eq_true rfl) (Nat.le_of_ble_eq_true rfl) h dX8_isBelow_15
def f_X8_fit (a0 : Int32) (a1 : Int32) (σ : gw_S) : Option ((Int32 ⊕ String) × gw_S) := ((f_X8_needConditions a0 a1 σ).bind fun q2 => gw_bx q2 fun u1 => ((f_X3_agree a0 a1 u1).bind fun p3 => (some (Sum.inl p3.1, p3.2))))
set_option maxHeartbeats 4000000 in
set_option maxRecDepth 100000 in
theorem gc_X8_fit (l : Launch) (hfl : l.stackTraces = false) (G : gw_G) (a0 : Int32) (a1 : Int32) (σ : gw_S) (o : ((Int32 ⊕ String) × gw_S)) (h : f_X8_fit a0 a1 σ = some o) : gw_N (fun sz => gw_xZ G sz o) (fun sz => gw_XC G sz o) 2 l yX8_fit cX8_fit 3 (some .boolean) { frames := 8, cells := 2, slots := 12, locals := 125 } G [.ref (G.2.1 0), .int a0, .int a1] σ := by
  refine gw_enx (own := RX8) (lv := [(0, .ref (G.2.1 0)), (1, .int a0), (2, .int a1)]) (by decide +kernel) rfl (Nat.le_of_ble_eq_true rfl) rfl ?_
  intro p e s m below meth c ls X hl hP
  obtain ⟨hx, hb, hml, hown, hts, -, -, hT, hZ, -⟩ := id X
  have hS : va_S (gw_A G s.heap.size) s.heap s.heap [] := va_S.rf
  unfold f_X8_fit at h
  refine lv_aload_n hx hb dX8_fit_0 rfl (lv_at hl 0 rfl) ?_
  refine lv_iload_n hx hb dX8_fit_1 rfl (lv_at hl 1 rfl) ?_
  refine lv_iload_n hx hb dX8_fit_2 rfl (lv_at hl 2 rfl) ?_
  obtain ⟨q2, gq2, h⟩ := Option.bind_eq_some_iff.mp h
  refine gw_cx X h (gw_xV_ (C := RX8) X hP hS (gc_X8_needConditions l hfl G a0 a1 σ _ gq2) gk_X8_needConditions gv_641 ⟨gv_643, gv_s7⟩ (va_recv hT.2.1 hP (ci := 10) (q0 := 0) rfl rfl) rfl rfl (Nat.le_of_ble_eq_true rfl) hl.1 ⟨rfl, rfl⟩ ⟨Nat.le_of_ble_eq_true rfl, Nat.le_of_ble_eq_true rfl⟩ ⟨Nat.le_of_ble_eq_true rfl, Nat.le_of_ble_eq_true rfl⟩ dX8_fit_3) hS (Nat.le_of_ble_eq_true rfl) (Nat.le_of_ble_eq_true rfl) (fun u1 H locs h hP hS => ?_)
  refine lv_aload_n hx hb dX8_fit_6 rfl (lv_at hl 0 rfl) ?_
  refine va_get (D := G.1) (ci := 10) (v := .ref (G.2.1 1)) (C := RX8) (T := TX8) (N := 7) hx hb hts gx_X8 hown hT.2.1 hP 0 rfl rfl 0 (by decide) (hts _ gv_214) (fun _ h9 => h9) rfl dX8_fit_7 ?_
  refine lv_iload_n hx hb dX8_fit_10 rfl (lv_at hl 1 rfl) ?_
  refine lv_iload_n hx hb dX8_fit_11 rfl (lv_at hl 2 rfl) ?_
  obtain ⟨p3, gp3, h⟩ := Option.bind_eq_some_iff.mp h
  refine gw_cz (gw_rV (C := RX3) X hP hS (gc_X3_agree l G a0 a1 u1 _ gp3) gk_X3_agree gv_284 ⟨gv_285, gv_286⟩ (va_recv hT.2.1 hP (ci := 6) (q0 := 1) rfl rfl) rfl rfl (Nat.le_of_ble_eq_true rfl) hl.1 ⟨rfl, rfl⟩ ⟨Nat.le_of_ble_eq_true rfl, Nat.le_of_ble_eq_true rfl⟩ ⟨Nat.le_of_ble_eq_true rfl, Nat.le_of_ble_eq_true rfl⟩ dX8_fit_12) hS (fun H locs hb_p3 hP hS => ?_)
  exact gw_xrz X hP hS hb_p3 (Nat.le_of_ble_eq_true rfl) (Nat.le_of_ble_eq_true rfl) h dX8_fit_15
def f_X8_lasts (σ : gw_S) : Option (Int32 × gw_S) := ((f_X3_ends  σ).bind fun p1 => (some (p1.1, p1.2)))
set_option maxHeartbeats 4000000 in
set_option maxRecDepth 100000 in
theorem gc_X8_lasts (l : Launch) (G : gw_G) (σ : gw_S) (o : (Int32 × gw_S)) (h : f_X8_lasts σ = some o) : gw_M (fun sz => gw_QI G sz o) l yX8_lasts cX8_lasts 1 (some .int) { frames := 1, cells := 0, slots := 0, locals := 20 } G [.ref (G.2.1 0)] σ := by
  refine gw_en (own := RX8) (lv := [(0, .ref (G.2.1 0))]) (by decide +kernel) rfl (Nat.le_of_ble_eq_true rfl) rfl ?_
  intro p e s m below meth c ls X hl hP
  obtain ⟨hx, hb, hml, hown, hts, -, -, hT, hZ, -⟩ := id X
  have hS : va_S (gw_A G s.heap.size) s.heap s.heap [] := va_S.rf
  unfold f_X8_lasts at h
  refine lv_aload_n hx hb dX8_lasts_0 rfl (lv_at hl 0 rfl) ?_
  refine va_get (D := G.1) (ci := 10) (v := .ref (G.2.1 1)) (C := RX8) (T := TX8) (N := 7) hx hb hts gx_X8 hown hT.2.1 hP 0 rfl rfl 0 (by decide) (hts _ gv_214) (fun _ h9 => h9) rfl dX8_lasts_1 ?_
  obtain ⟨p1, gp1, h⟩ := Option.bind_eq_some_iff.mp h
  refine gw_ci (gw_rV (C := RX3) X hP hS (gc_X3_ends l G  σ _ gp1) gk_X3_ends gv_240 ⟨gv_241, gv_242⟩ (va_recv hT.2.1 hP (ci := 6) (q0 := 1) rfl rfl) rfl rfl (Nat.le_of_ble_eq_true rfl) hl.1 ⟨rfl, rfl⟩ ⟨Nat.le_of_ble_eq_true rfl, Nat.le_of_ble_eq_true rfl⟩ ⟨Nat.le_of_ble_eq_true rfl, Nat.le_of_ble_eq_true rfl⟩ dX8_lasts_4) hS (fun H locs hP hS => ?_)
  exact gw_ri X hP hS h dX8_lasts_7
def f_X8_isAntichain_L22 : Nat → (Int32 → Int32 → gw_S → Option ((Int32 ⊕ String) × gw_S)) → Int32 → Int32 → Int32 → gw_S → Option ((Int32 ⊕ String) × gw_S)
  | 0, _, _, _, _, _ => none
  | n + 1, K, v22_1, v22_2, v22_3, σ => ((f_X3_size  σ).bind fun p4 => (if p4.1 ≤ v22_3 then (K v22_1 v22_2 p4.2) else ((f_X8_contains v22_1 v22_2 p4.2).bind fun p5 => (if p5.1 = 0 then (f_X8_isAntichain_L22 n K v22_1 v22_2 (v22_3 + (1 : Int32)) p5.2) else ((f_X8_contains v22_1 v22_3 p5.2).bind fun p6 => (if p6.1 = 0 then (f_X8_isAntichain_L22 n K v22_1 v22_2 (v22_3 + (1 : Int32)) p6.2) else ((f_X3_agree v22_2 v22_3 p6.2).bind fun p7 => (if p7.1 = 0 then (f_X8_isAntichain_L22 n K v22_1 v22_2 (v22_3 + (1 : Int32)) p7.2) else (some (Sum.inl (0 : Int32), p7.2))))))))))
def f_X8_isAntichain_L7 : Nat → Int32 → Int32 → gw_S → Option ((Int32 ⊕ String) × gw_S)
  | 0, _, _, _ => none
  | n + 1, v7_1, v7_2, σ => ((f_X3_size  σ).bind fun p3 => (if p3.1 ≤ v7_2 then (some (Sum.inl (1 : Int32), p3.2)) else (f_X8_isAntichain_L22 64 (fun w22_1 w22_2 σ22 => (f_X8_isAntichain_L7 n w22_1 (w22_2 + (1 : Int32)) σ22)) v7_1 v7_2 (v7_2 + (1 : Int32)) p3.2)))
def f_X8_isAntichain (a0 : Int32) (σ : gw_S) : Option ((Int32 ⊕ String) × gw_S) := ((f_X8_needSet a0 σ).bind fun q2 => gw_bx q2 fun u1 => (f_X8_isAntichain_L7 64 a0 (0 : Int32) u1))
set_option maxHeartbeats 4000000 in
set_option maxRecDepth 100000 in
theorem gc_X8_isAntichain (l : Launch) (hfl : l.stackTraces = false) (G : gw_G) (a0 : Int32) (σ : gw_S) (o : ((Int32 ⊕ String) × gw_S)) (h : f_X8_isAntichain a0 σ = some o) : gw_N (fun sz => gw_xZ G sz o) (fun sz => gw_XC G sz o) 1 l yX8_isAntichain cX8_isAntichain 4 (some .boolean) { frames := 7, cells := 1, slots := 6, locals := 103 } G [.ref (G.2.1 0), .int a0] σ := by
  refine gw_enx (own := RX8) (lv := [(0, .ref (G.2.1 0)), (1, .int a0)]) (by decide +kernel) rfl (Nat.le_of_ble_eq_true rfl) rfl ?_
  intro p e s m below meth c ls X hl hP
  obtain ⟨hx, hb, hml, hown, hts, -, -, hT, hZ, -⟩ := id X
  have hS : va_S (gw_A G s.heap.size) s.heap s.heap [] := va_S.rf
  have L22 : ∀ (n : Nat) (K : Int32 → Int32 → gw_S → Option ((Int32 ⊕ String) × gw_S)) (v22_1 : Int32) (v22_2 : Int32) (v22_3 : Int32) (σ : gw_S) (H : Heap) (locs : List Loc) (ls : Array Slot), f_X8_isAntichain_L22 n K v22_1 v22_2 v22_3 σ = some o → gw_P G σ H → va_S (gw_A G s.heap.size) s.heap H locs → lv_has ls 4 [(0, .ref (G.2.1 0)), (1, .int v22_1), (2, .int v22_2), (3, .int v22_3)] → (∀ (w1 : Int32) (w2 : Int32) (σ : gw_S) (H : Heap) (locs : List Loc) (ls : Array Slot), K w1 w2 σ = some o → gw_P G σ H → va_S (gw_A G s.heap.size) s.heap H locs → lv_has ls 4 [(0, .ref (G.2.1 0)), (1, .int w1), (2, .int w2)] → W p l e { frames := 7, cells := 1, slots := 6, locals := 103 } s m [.ref (G.2.1 0), .int a0].toArray below meth c H locs 1 (6 * 1) (vx_MQ below (gw_xZ G s.heap.size o) (gw_XC G s.heap.size o) [.ref (G.2.1 0), .int a0].toArray s 1 (6 * 1) (gw_A G s.heap.size)) (F0 m 69 ls [])) → W p l e { frames := 7, cells := 1, slots := 6, locals := 103 } s m [.ref (G.2.1 0), .int a0].toArray below meth c H locs 1 (6 * 1) (vx_MQ below (gw_xZ G s.heap.size o) (gw_XC G s.heap.size o) [.ref (G.2.1 0), .int a0].toArray s 1 (6 * 1) (gw_A G s.heap.size)) (F0 m 22 ls []) := by
    intro n K
    induction n with
    | zero =>
      intro v22_1 v22_2 v22_3 σ H locs ls h
      exact absurd h (by rw [f_X8_isAntichain_L22.eq_1]; exact fun h => nomatch h)
    | succ n ih =>
      intro v22_1 v22_2 v22_3 σ H locs ls h hP hS hl hK
      rw [f_X8_isAntichain_L22.eq_2] at h
      refine lv_iload_n hx hb dX8_isAntichain_22 rfl (lv_at hl 3 rfl) ?_
      refine lv_aload_n hx hb dX8_isAntichain_23 rfl (lv_at hl 0 rfl) ?_
      refine va_get (D := G.1) (ci := 10) (v := .ref (G.2.1 1)) (C := RX8) (T := TX8) (N := 7) hx hb hts gx_X8 hown hT.2.1 hP 0 rfl rfl 0 (by decide) (hts _ gv_214) (fun _ h9 => h9) rfl dX8_isAntichain_24 ?_
      obtain ⟨p4, gp4, h⟩ := Option.bind_eq_some_iff.mp h
      refine gw_ci (gw_rV (C := RX3) X hP hS (gc_X3_size l G  σ _ gp4) gk_X3_size gv_258 ⟨gv_259, gv_260⟩ (va_recv hT.2.1 hP (ci := 6) (q0 := 1) rfl rfl) rfl rfl (Nat.le_of_ble_eq_true rfl) hl.1 ⟨rfl, rfl⟩ ⟨Nat.le_of_ble_eq_true rfl, Nat.le_of_ble_eq_true rfl⟩ ⟨Nat.le_of_ble_eq_true rfl, Nat.le_of_ble_eq_true rfl⟩ dX8_isAntichain_27) hS (fun H locs hP hS => ?_)
      refine lv_icmp_ge (tgt := 69) hx hb dX8_isAntichain_30 (by decide) (fun c => ?_) (fun c => ?_)
      · have h := (if_pos c).symm.trans h
        exact hK v22_1 v22_2 p4.2 _ _ _ h hP hS (lv_sub hl [0, 1, 2] rfl)
      · have h := (if_neg c).symm.trans h
        refine lv_iload_n hx hb dX8_isAntichain_33 rfl (lv_at hl 1 rfl) ?_
        refine lv_iload_n hx hb dX8_isAntichain_34 rfl (lv_at hl 2 rfl) ?_
        obtain ⟨p5, gp5, h⟩ := Option.bind_eq_some_iff.mp h
        refine gw_cz (gw_rS X hP hS (gc_X8_contains l G v22_1 v22_2 p4.2 _ gp5) gk_X8_contains gv_485 gv_278 rfl rfl (Nat.le_of_ble_eq_true rfl) hl.1 ⟨rfl, rfl⟩ ⟨Nat.le_of_ble_eq_true rfl, Nat.le_of_ble_eq_true rfl⟩ ⟨Nat.le_of_ble_eq_true rfl, Nat.le_of_ble_eq_true rfl⟩ dX8_isAntichain_35) hS (fun H locs hb_p5 hP hS => ?_)
        refine lv_if_eq (tgt := 63) hx hb dX8_isAntichain_38 (by decide) (fun c => ?_) (fun c => ?_)
        · have h := (if_pos c).symm.trans h
          refine lv_iinc (v := (v22_3 + (1 : Int32))) (lv' := [(3, .int (v22_3 + (1 : Int32))), (0, .ref (G.2.1 0)), (1, .int v22_1), (2, .int v22_2)]) hx hb dX8_isAntichain_63 hl (k := 3) rfl rfl (by decide) rfl (fun ls hl => ?_)
          refine lv_goto (tgt := 22) hx hb dX8_isAntichain_66 (by decide) ?_
          exact ih v22_1 v22_2 (v22_3 + (1 : Int32)) p5.2 _ _ _ h hP hS (lv_sub hl [1, 2, 3, 0] rfl) hK
        · have h := (if_neg c).symm.trans h
          refine lv_iload_n hx hb dX8_isAntichain_41 rfl (lv_at hl 1 rfl) ?_
          refine lv_iload_n hx hb dX8_isAntichain_42 rfl (lv_at hl 3 rfl) ?_
          obtain ⟨p6, gp6, h⟩ := Option.bind_eq_some_iff.mp h
          refine gw_cz (gw_rS X hP hS (gc_X8_contains l G v22_1 v22_3 p5.2 _ gp6) gk_X8_contains gv_485 gv_278 rfl rfl (Nat.le_of_ble_eq_true rfl) hl.1 ⟨rfl, rfl⟩ ⟨Nat.le_of_ble_eq_true rfl, Nat.le_of_ble_eq_true rfl⟩ ⟨Nat.le_of_ble_eq_true rfl, Nat.le_of_ble_eq_true rfl⟩ dX8_isAntichain_43) hS (fun H locs hb_p6 hP hS => ?_)
          refine lv_if_eq (tgt := 63) hx hb dX8_isAntichain_46 (by decide) (fun c => ?_) (fun c => ?_)
          · have h := (if_pos c).symm.trans h
            refine lv_iinc (v := (v22_3 + (1 : Int32))) (lv' := [(3, .int (v22_3 + (1 : Int32))), (0, .ref (G.2.1 0)), (1, .int v22_1), (2, .int v22_2)]) hx hb dX8_isAntichain_63 hl (k := 3) rfl rfl (by decide) rfl (fun ls hl => ?_)
            refine lv_goto (tgt := 22) hx hb dX8_isAntichain_66 (by decide) ?_
            exact ih v22_1 v22_2 (v22_3 + (1 : Int32)) p6.2 _ _ _ h hP hS (lv_sub hl [1, 2, 3, 0] rfl) hK
          · have h := (if_neg c).symm.trans h
            refine lv_aload_n hx hb dX8_isAntichain_49 rfl (lv_at hl 0 rfl) ?_
            refine va_get (D := G.1) (ci := 10) (v := .ref (G.2.1 1)) (C := RX8) (T := TX8) (N := 7) hx hb hts gx_X8 hown hT.2.1 hP 0 rfl rfl 0 (by decide) (hts _ gv_214) (fun _ h9 => h9) rfl dX8_isAntichain_50 ?_
            refine lv_iload_n hx hb dX8_isAntichain_53 rfl (lv_at hl 2 rfl) ?_
            refine lv_iload_n hx hb dX8_isAntichain_54 rfl (lv_at hl 3 rfl) ?_
            obtain ⟨p7, gp7, h⟩ := Option.bind_eq_some_iff.mp h
            refine gw_cz (gw_rV (C := RX3) X hP hS (gc_X3_agree l G v22_2 v22_3 p6.2 _ gp7) gk_X3_agree gv_284 ⟨gv_285, gv_286⟩ (va_recv hT.2.1 hP (ci := 6) (q0 := 1) rfl rfl) rfl rfl (Nat.le_of_ble_eq_true rfl) hl.1 ⟨rfl, rfl⟩ ⟨Nat.le_of_ble_eq_true rfl, Nat.le_of_ble_eq_true rfl⟩ ⟨Nat.le_of_ble_eq_true rfl, Nat.le_of_ble_eq_true rfl⟩ dX8_isAntichain_55) hS (fun H locs hb_p7 hP hS => ?_)
            refine lv_if_eq (tgt := 63) hx hb dX8_isAntichain_58 (by decide) (fun c => ?_) (fun c => ?_)
            · have h := (if_pos c).symm.trans h
              refine lv_iinc (v := (v22_3 + (1 : Int32))) (lv' := [(3, .int (v22_3 + (1 : Int32))), (0, .ref (G.2.1 0)), (1, .int v22_1), (2, .int v22_2)]) hx hb dX8_isAntichain_63 hl (k := 3) rfl rfl (by decide) rfl (fun ls hl => ?_)
              refine lv_goto (tgt := 22) hx hb dX8_isAntichain_66 (by decide) ?_
              exact ih v22_1 v22_2 (v22_3 + (1 : Int32)) p7.2 _ _ _ h hP hS (lv_sub hl [1, 2, 3, 0] rfl) hK
            · have h := (if_neg c).symm.trans h
              refine lv_iconst (v := 0) hx hb dX8_isAntichain_61 (by decide) ?_
              exact gw_xrz X hP hS rfl (Nat.le_of_ble_eq_true rfl) (Nat.le_of_ble_eq_true rfl) h dX8_isAntichain_62
  have L7 : ∀ (n : Nat) (v7_1 : Int32) (v7_2 : Int32) (σ : gw_S) (H : Heap) (locs : List Loc) (ls : Array Slot), f_X8_isAntichain_L7 n v7_1 v7_2 σ = some o → gw_P G σ H → va_S (gw_A G s.heap.size) s.heap H locs → lv_has ls 4 [(0, .ref (G.2.1 0)), (1, .int v7_1), (2, .int v7_2)] → W p l e { frames := 7, cells := 1, slots := 6, locals := 103 } s m [.ref (G.2.1 0), .int a0].toArray below meth c H locs 1 (6 * 1) (vx_MQ below (gw_xZ G s.heap.size o) (gw_XC G s.heap.size o) [.ref (G.2.1 0), .int a0].toArray s 1 (6 * 1) (gw_A G s.heap.size)) (F0 m 7 ls []) := by
    intro n
    induction n with
    | zero =>
      intro v7_1 v7_2 σ H locs ls h
      exact absurd h (by rw [f_X8_isAntichain_L7.eq_1]; exact fun h => nomatch h)
    | succ n ih =>
      intro v7_1 v7_2 σ H locs ls h hP hS hl
      rw [f_X8_isAntichain_L7.eq_2] at h
      refine lv_iload_n hx hb dX8_isAntichain_7 rfl (lv_at hl 2 rfl) ?_
      refine lv_aload_n hx hb dX8_isAntichain_8 rfl (lv_at hl 0 rfl) ?_
      refine va_get (D := G.1) (ci := 10) (v := .ref (G.2.1 1)) (C := RX8) (T := TX8) (N := 7) hx hb hts gx_X8 hown hT.2.1 hP 0 rfl rfl 0 (by decide) (hts _ gv_214) (fun _ h9 => h9) rfl dX8_isAntichain_9 ?_
      obtain ⟨p3, gp3, h⟩ := Option.bind_eq_some_iff.mp h
      refine gw_ci (gw_rV (C := RX3) X hP hS (gc_X3_size l G  σ _ gp3) gk_X3_size gv_258 ⟨gv_259, gv_260⟩ (va_recv hT.2.1 hP (ci := 6) (q0 := 1) rfl rfl) rfl rfl (Nat.le_of_ble_eq_true rfl) hl.1 ⟨rfl, rfl⟩ ⟨Nat.le_of_ble_eq_true rfl, Nat.le_of_ble_eq_true rfl⟩ ⟨Nat.le_of_ble_eq_true rfl, Nat.le_of_ble_eq_true rfl⟩ dX8_isAntichain_12) hS (fun H locs hP hS => ?_)
      refine lv_icmp_ge (tgt := 75) hx hb dX8_isAntichain_15 (by decide) (fun c => ?_) (fun c => ?_)
      · have h := (if_pos c).symm.trans h
        refine lv_iconst (v := 1) hx hb dX8_isAntichain_75 (by decide) ?_
        exact gw_xrz X hP hS rfl (Nat.le_of_ble_eq_true rfl) (Nat.le_of_ble_eq_true rfl) h dX8_isAntichain_76
      · have h := (if_neg c).symm.trans h
        refine lv_iload_n hx hb dX8_isAntichain_18 rfl (lv_at hl 2 rfl) ?_
        refine lv_iconst (v := 1) hx hb dX8_isAntichain_19 (by decide) ?_
        refine lv_iadd hx hb dX8_isAntichain_20 ?_
        refine lv_istore_n (lv' := [(3, .int (v7_2 + (1 : Int32))), (0, .ref (G.2.1 0)), (1, .int v7_1), (2, .int v7_2)]) hx hb dX8_isAntichain_21 rfl hl (by decide) rfl (fun ls hl => ?_)
        refine L22 64 _ v7_1 v7_2 (v7_2 + (1 : Int32)) p3.2 _ _ _ h hP hS (lv_sub hl [1, 2, 3, 0] rfl) (fun w22_1 w22_2 σ22 H locs ls h hP hS hl => ?_)
        refine lv_iinc (v := (w22_2 + (1 : Int32))) (lv' := [(2, .int (w22_2 + (1 : Int32))), (0, .ref (G.2.1 0)), (1, .int w22_1)]) hx hb dX8_isAntichain_69 hl (k := 2) rfl rfl (by decide) rfl (fun ls hl => ?_)
        refine lv_goto (tgt := 7) hx hb dX8_isAntichain_72 (by decide) ?_
        exact ih w22_1 (w22_2 + (1 : Int32)) σ22 _ _ _ h hP hS (lv_sub hl [1, 2, 0] rfl)
  unfold f_X8_isAntichain at h
  refine lv_aload_n hx hb dX8_isAntichain_0 rfl (lv_at hl 0 rfl) ?_
  refine lv_iload_n hx hb dX8_isAntichain_1 rfl (lv_at hl 1 rfl) ?_
  obtain ⟨q2, gq2, h⟩ := Option.bind_eq_some_iff.mp h
  refine gw_cx X h (gw_xV_ (C := RX8) X hP hS (gc_X8_needSet l hfl G a0 σ _ gq2) gk_X8_needSet gv_717 ⟨gv_719, gv_s9⟩ (va_recv hT.2.1 hP (ci := 10) (q0 := 0) rfl rfl) rfl rfl (Nat.le_of_ble_eq_true rfl) hl.1 ⟨rfl, rfl⟩ ⟨Nat.le_of_ble_eq_true rfl, Nat.le_of_ble_eq_true rfl⟩ ⟨Nat.le_of_ble_eq_true rfl, Nat.le_of_ble_eq_true rfl⟩ dX8_isAntichain_2) hS (Nat.le_of_ble_eq_true rfl) (Nat.le_of_ble_eq_true rfl) (fun u1 H locs h hP hS => ?_)
  refine lv_iconst (v := 0) hx hb dX8_isAntichain_5 (by decide) ?_
  refine lv_istore_n (lv' := [(2, .int (0 : Int32)), (0, .ref (G.2.1 0)), (1, .int a0)]) hx hb dX8_isAntichain_6 rfl hl (by decide) rfl (fun ls hl => ?_)
  exact L7 64 a0 (0 : Int32) u1 _ _ _ h hP hS (lv_sub hl [1, 2, 0] rfl)
def f_X8_widest (σ : gw_S) : Option (Int32 × gw_S) := ((f_X3_ends  σ).bind fun p1 => ((f_J6_bitCount_0f7a4 p1.1 p1.2).bind fun p2 => (some (p2.1, p2.2))))
set_option maxHeartbeats 4000000 in
set_option maxRecDepth 100000 in
theorem gc_X8_widest (l : Launch) (G : gw_G) (σ : gw_S) (o : (Int32 × gw_S)) (h : f_X8_widest σ = some o) : gw_M (fun sz => gw_QI G sz o) l yX8_widest cX8_widest 1 (some .int) { frames := 1, cells := 0, slots := 0, locals := 20 } G [.ref (G.2.1 0)] σ := by
  refine gw_en (own := RX8) (lv := [(0, .ref (G.2.1 0))]) (by decide +kernel) rfl (Nat.le_of_ble_eq_true rfl) rfl ?_
  intro p e s m below meth c ls X hl hP
  obtain ⟨hx, hb, hml, hown, hts, -, -, hT, hZ, -⟩ := id X
  have hS : va_S (gw_A G s.heap.size) s.heap s.heap [] := va_S.rf
  unfold f_X8_widest at h
  refine lv_aload_n hx hb dX8_widest_0 rfl (lv_at hl 0 rfl) ?_
  refine va_get (D := G.1) (ci := 10) (v := .ref (G.2.1 1)) (C := RX8) (T := TX8) (N := 7) hx hb hts gx_X8 hown hT.2.1 hP 0 rfl rfl 0 (by decide) (hts _ gv_214) (fun _ h9 => h9) rfl dX8_widest_1 ?_
  obtain ⟨p1, gp1, h⟩ := Option.bind_eq_some_iff.mp h
  refine gw_ci (gw_rV (C := RX3) X hP hS (gc_X3_ends l G  σ _ gp1) gk_X3_ends gv_240 ⟨gv_241, gv_242⟩ (va_recv hT.2.1 hP (ci := 6) (q0 := 1) rfl rfl) rfl rfl (Nat.le_of_ble_eq_true rfl) hl.1 ⟨rfl, rfl⟩ ⟨Nat.le_of_ble_eq_true rfl, Nat.le_of_ble_eq_true rfl⟩ ⟨Nat.le_of_ble_eq_true rfl, Nat.le_of_ble_eq_true rfl⟩ dX8_widest_4) hS (fun H locs hP hS => ?_)
  obtain ⟨p2, gp2, h⟩ := Option.bind_eq_some_iff.mp h
  refine gw_ci (gw_rS X hP hS (gc_J6_bitCount_0f7a4 l G p1.1 p1.2 _ gp2) gk_J6_bitCount_0f7a4 gv_248 gv_249 rfl rfl (Nat.le_of_ble_eq_true rfl) hl.1 ⟨rfl, rfl⟩ ⟨Nat.le_of_ble_eq_true rfl, Nat.le_of_ble_eq_true rfl⟩ ⟨Nat.le_of_ble_eq_true rfl, Nat.le_of_ble_eq_true rfl⟩ dX8_widest_7) hS (fun H locs hP hS => ?_)
  exact gw_ri X hP hS h dX8_widest_10
def f_X8_isDense_L7 : Nat → Int32 → Int32 → gw_S → Option ((Int32 ⊕ String) × gw_S)
  | 0, _, _, _ => none
  | n + 1, v7_1, v7_2, σ => ((f_X3_size  σ).bind fun p3 => (if p3.1 ≤ v7_2 then (some (Sum.inl (1 : Int32), p3.2)) else ((f_X3_down v7_2 p3.2).bind fun p4 => (if (p4.1 &&& v7_1) = 0 then (some (Sum.inl (0 : Int32), p4.2)) else (f_X8_isDense_L7 n v7_1 (v7_2 + (1 : Int32)) p4.2)))))
def f_X8_isDense (a0 : Int32) (σ : gw_S) : Option ((Int32 ⊕ String) × gw_S) := ((f_X8_needSet a0 σ).bind fun q2 => gw_bx q2 fun u1 => (f_X8_isDense_L7 64 a0 (0 : Int32) u1))
set_option maxHeartbeats 4000000 in
set_option maxRecDepth 100000 in
theorem gc_X8_isDense (l : Launch) (hfl : l.stackTraces = false) (G : gw_G) (a0 : Int32) (σ : gw_S) (o : ((Int32 ⊕ String) × gw_S)) (h : f_X8_isDense a0 σ = some o) : gw_N (fun sz => gw_xZ G sz o) (fun sz => gw_XC G sz o) 1 l yX8_isDense cX8_isDense 3 (some .boolean) { frames := 7, cells := 1, slots := 6, locals := 103 } G [.ref (G.2.1 0), .int a0] σ := by
  refine gw_enx (own := RX8) (lv := [(0, .ref (G.2.1 0)), (1, .int a0)]) (by decide +kernel) rfl (Nat.le_of_ble_eq_true rfl) rfl ?_
  intro p e s m below meth c ls X hl hP
  obtain ⟨hx, hb, hml, hown, hts, -, -, hT, hZ, -⟩ := id X
  have hS : va_S (gw_A G s.heap.size) s.heap s.heap [] := va_S.rf
  have L7 : ∀ (n : Nat) (v7_1 : Int32) (v7_2 : Int32) (σ : gw_S) (H : Heap) (locs : List Loc) (ls : Array Slot), f_X8_isDense_L7 n v7_1 v7_2 σ = some o → gw_P G σ H → va_S (gw_A G s.heap.size) s.heap H locs → lv_has ls 3 [(0, .ref (G.2.1 0)), (1, .int v7_1), (2, .int v7_2)] → W p l e { frames := 7, cells := 1, slots := 6, locals := 103 } s m [.ref (G.2.1 0), .int a0].toArray below meth c H locs 1 (6 * 1) (vx_MQ below (gw_xZ G s.heap.size o) (gw_XC G s.heap.size o) [.ref (G.2.1 0), .int a0].toArray s 1 (6 * 1) (gw_A G s.heap.size)) (F0 m 7 ls []) := by
    intro n
    induction n with
    | zero =>
      intro v7_1 v7_2 σ H locs ls h
      exact absurd h (by rw [f_X8_isDense_L7.eq_1]; exact fun h => nomatch h)
    | succ n ih =>
      intro v7_1 v7_2 σ H locs ls h hP hS hl
      rw [f_X8_isDense_L7.eq_2] at h
      refine lv_iload_n hx hb dX8_isDense_7 rfl (lv_at hl 2 rfl) ?_
      refine lv_aload_n hx hb dX8_isDense_8 rfl (lv_at hl 0 rfl) ?_
      refine va_get (D := G.1) (ci := 10) (v := .ref (G.2.1 1)) (C := RX8) (T := TX8) (N := 7) hx hb hts gx_X8 hown hT.2.1 hP 0 rfl rfl 0 (by decide) (hts _ gv_214) (fun _ h9 => h9) rfl dX8_isDense_9 ?_
      obtain ⟨p3, gp3, h⟩ := Option.bind_eq_some_iff.mp h
      refine gw_ci (gw_rV (C := RX3) X hP hS (gc_X3_size l G  σ _ gp3) gk_X3_size gv_258 ⟨gv_259, gv_260⟩ (va_recv hT.2.1 hP (ci := 6) (q0 := 1) rfl rfl) rfl rfl (Nat.le_of_ble_eq_true rfl) hl.1 ⟨rfl, rfl⟩ ⟨Nat.le_of_ble_eq_true rfl, Nat.le_of_ble_eq_true rfl⟩ ⟨Nat.le_of_ble_eq_true rfl, Nat.le_of_ble_eq_true rfl⟩ dX8_isDense_12) hS (fun H locs hP hS => ?_)
      refine lv_icmp_ge (tgt := 39) hx hb dX8_isDense_15 (by decide) (fun c => ?_) (fun c => ?_)
      · have h := (if_pos c).symm.trans h
        refine lv_iconst (v := 1) hx hb dX8_isDense_39 (by decide) ?_
        exact gw_xrz X hP hS rfl (Nat.le_of_ble_eq_true rfl) (Nat.le_of_ble_eq_true rfl) h dX8_isDense_40
      · have h := (if_neg c).symm.trans h
        refine lv_aload_n hx hb dX8_isDense_18 rfl (lv_at hl 0 rfl) ?_
        refine va_get (D := G.1) (ci := 10) (v := .ref (G.2.1 1)) (C := RX8) (T := TX8) (N := 7) hx hb hts gx_X8 hown hT.2.1 hP 0 rfl rfl 0 (by decide) (hts _ gv_214) (fun _ h9 => h9) rfl dX8_isDense_19 ?_
        refine lv_iload_n hx hb dX8_isDense_22 rfl (lv_at hl 2 rfl) ?_
        obtain ⟨p4, gp4, h⟩ := Option.bind_eq_some_iff.mp h
        refine gw_ci (gw_rV (C := RX3) X hP hS (gc_X3_down l G v7_2 p3.2 _ gp4) gk_X3_down gv_302 ⟨gv_271, gv_272⟩ (va_recv hT.2.1 hP (ci := 6) (q0 := 1) rfl rfl) rfl rfl (Nat.le_of_ble_eq_true rfl) hl.1 ⟨rfl, rfl⟩ ⟨Nat.le_of_ble_eq_true rfl, Nat.le_of_ble_eq_true rfl⟩ ⟨Nat.le_of_ble_eq_true rfl, Nat.le_of_ble_eq_true rfl⟩ dX8_isDense_23) hS (fun H locs hP hS => ?_)
        refine lv_iload_n hx hb dX8_isDense_26 rfl (lv_at hl 1 rfl) ?_
        refine lv_iand hx hb dX8_isDense_27 ?_
        refine lv_if_ne (tgt := 33) hx hb dX8_isDense_28 (by decide) (fun c => ?_) (fun c => ?_)
        · have h := (if_neg c).symm.trans h
          refine lv_iinc (v := (v7_2 + (1 : Int32))) (lv' := [(2, .int (v7_2 + (1 : Int32))), (0, .ref (G.2.1 0)), (1, .int v7_1)]) hx hb dX8_isDense_33 hl (k := 2) rfl rfl (by decide) rfl (fun ls hl => ?_)
          refine lv_goto (tgt := 7) hx hb dX8_isDense_36 (by decide) ?_
          exact ih v7_1 (v7_2 + (1 : Int32)) p4.2 _ _ _ h hP hS (lv_sub hl [1, 2, 0] rfl)
        · have h := (if_pos c).symm.trans h
          refine lv_iconst (v := 0) hx hb dX8_isDense_31 (by decide) ?_
          exact gw_xrz X hP hS rfl (Nat.le_of_ble_eq_true rfl) (Nat.le_of_ble_eq_true rfl) h dX8_isDense_32
  unfold f_X8_isDense at h
  refine lv_aload_n hx hb dX8_isDense_0 rfl (lv_at hl 0 rfl) ?_
  refine lv_iload_n hx hb dX8_isDense_1 rfl (lv_at hl 1 rfl) ?_
  obtain ⟨q2, gq2, h⟩ := Option.bind_eq_some_iff.mp h
  refine gw_cx X h (gw_xV_ (C := RX8) X hP hS (gc_X8_needSet l hfl G a0 σ _ gq2) gk_X8_needSet gv_717 ⟨gv_719, gv_s9⟩ (va_recv hT.2.1 hP (ci := 10) (q0 := 0) rfl rfl) rfl rfl (Nat.le_of_ble_eq_true rfl) hl.1 ⟨rfl, rfl⟩ ⟨Nat.le_of_ble_eq_true rfl, Nat.le_of_ble_eq_true rfl⟩ ⟨Nat.le_of_ble_eq_true rfl, Nat.le_of_ble_eq_true rfl⟩ dX8_isDense_2) hS (Nat.le_of_ble_eq_true rfl) (Nat.le_of_ble_eq_true rfl) (fun u1 H locs h hP hS => ?_)
  refine lv_iconst (v := 0) hx hb dX8_isDense_5 (by decide) ?_
  refine lv_istore_n (lv' := [(2, .int (0 : Int32)), (0, .ref (G.2.1 0)), (1, .int a0)]) hx hb dX8_isDense_6 rfl hl (by decide) rfl (fun ls hl => ?_)
  exact L7 64 a0 (0 : Int32) u1 _ _ _ h hP hS (lv_sub hl [1, 2, 0] rfl)
def f_X8_meetsAll_L2 : Nat → Int32 → Int32 → Int32 → gw_S → Option (Int32 × gw_S)
  | 0, _, _, _, _ => none
  | n + 1, v2_1, v2_2, v2_3, σ => ((f_X3_size  σ).bind fun p1 => (if p1.1 ≤ v2_3 then (some ((1 : Int32), p1.2)) else ((f_X8_contains v2_2 v2_3 p1.2).bind fun p2 => (if p2.1 = 0 then (f_X8_meetsAll_L2 n v2_1 v2_2 (v2_3 + (1 : Int32)) p2.2) else ((f_X3_down v2_1 p2.2).bind fun p3 => ((f_X3_down v2_3 p3.2).bind fun p4 => (if ((p3.1 &&& p4.1) &&& v2_2) = 0 then (some ((0 : Int32), p4.2)) else (f_X8_meetsAll_L2 n v2_1 v2_2 (v2_3 + (1 : Int32)) p4.2))))))))
def f_X8_meetsAll (a0 : Int32) (a1 : Int32) (σ : gw_S) : Option (Int32 × gw_S) := (f_X8_meetsAll_L2 64 a0 a1 (0 : Int32) σ)
set_option maxHeartbeats 4000000 in
set_option maxRecDepth 100000 in
theorem gc_X8_meetsAll (l : Launch) (G : gw_G) (a0 : Int32) (a1 : Int32) (σ : gw_S) (o : (Int32 × gw_S)) (h : f_X8_meetsAll a0 a1 σ = some o) : gw_M (fun sz => gw_QZ G sz o) l yX8_meetsAll cX8_meetsAll 4 (some .boolean) { frames := 2, cells := 0, slots := 0, locals := 42 } G [.ref (G.2.1 0), .int a0, .int a1] σ := by
  refine gw_en (own := RX8) (lv := [(0, .ref (G.2.1 0)), (1, .int a0), (2, .int a1)]) (by decide +kernel) rfl (Nat.le_of_ble_eq_true rfl) rfl ?_
  intro p e s m below meth c ls X hl hP
  obtain ⟨hx, hb, hml, hown, hts, -, -, hT, hZ, -⟩ := id X
  have hS : va_S (gw_A G s.heap.size) s.heap s.heap [] := va_S.rf
  have L2 : ∀ (n : Nat) (v2_1 : Int32) (v2_2 : Int32) (v2_3 : Int32) (σ : gw_S) (H : Heap) (locs : List Loc) (ls : Array Slot), f_X8_meetsAll_L2 n v2_1 v2_2 v2_3 σ = some o → gw_P G σ H → va_S (gw_A G s.heap.size) s.heap H locs → lv_has ls 4 [(0, .ref (G.2.1 0)), (1, .int v2_1), (2, .int v2_2), (3, .int v2_3)] → W p l e { frames := 2, cells := 0, slots := 0, locals := 42 } s m [.ref (G.2.1 0), .int a0, .int a1].toArray below meth c H locs 0 0 (MQ below (gw_QZ G s.heap.size o) [.ref (G.2.1 0), .int a0, .int a1].toArray s 0 0 (gw_A G s.heap.size)) (F0 m 2 ls []) := by
    intro n
    induction n with
    | zero =>
      intro v2_1 v2_2 v2_3 σ H locs ls h
      exact absurd h (by rw [f_X8_meetsAll_L2.eq_1]; exact fun h => nomatch h)
    | succ n ih =>
      intro v2_1 v2_2 v2_3 σ H locs ls h hP hS hl
      rw [f_X8_meetsAll_L2.eq_2] at h
      refine lv_iload_n hx hb dX8_meetsAll_2 rfl (lv_at hl 3 rfl) ?_
      refine lv_aload_n hx hb dX8_meetsAll_3 rfl (lv_at hl 0 rfl) ?_
      refine va_get (D := G.1) (ci := 10) (v := .ref (G.2.1 1)) (C := RX8) (T := TX8) (N := 7) hx hb hts gx_X8 hown hT.2.1 hP 0 rfl rfl 0 (by decide) (hts _ gv_214) (fun _ h9 => h9) rfl dX8_meetsAll_4 ?_
      obtain ⟨p1, gp1, h⟩ := Option.bind_eq_some_iff.mp h
      refine gw_ci (gw_rV (C := RX3) X hP hS (gc_X3_size l G  σ _ gp1) gk_X3_size gv_258 ⟨gv_259, gv_260⟩ (va_recv hT.2.1 hP (ci := 6) (q0 := 1) rfl rfl) rfl rfl (Nat.le_of_ble_eq_true rfl) hl.1 ⟨rfl, rfl⟩ ⟨Nat.le_of_ble_eq_true rfl, Nat.le_of_ble_eq_true rfl⟩ ⟨Nat.le_of_ble_eq_true rfl, Nat.le_of_ble_eq_true rfl⟩ dX8_meetsAll_7) hS (fun H locs hP hS => ?_)
      refine lv_icmp_ge (tgt := 51) hx hb dX8_meetsAll_10 (by decide) (fun c => ?_) (fun c => ?_)
      · have h := (if_pos c).symm.trans h
        refine lv_iconst (v := 1) hx hb dX8_meetsAll_51 (by decide) ?_
        exact gw_rz X hP hS rfl h dX8_meetsAll_52
      · have h := (if_neg c).symm.trans h
        refine lv_iload_n hx hb dX8_meetsAll_13 rfl (lv_at hl 2 rfl) ?_
        refine lv_iload_n hx hb dX8_meetsAll_14 rfl (lv_at hl 3 rfl) ?_
        obtain ⟨p2, gp2, h⟩ := Option.bind_eq_some_iff.mp h
        refine gw_cz (gw_rS X hP hS (gc_X8_contains l G v2_2 v2_3 p1.2 _ gp2) gk_X8_contains gv_485 gv_278 rfl rfl (Nat.le_of_ble_eq_true rfl) hl.1 ⟨rfl, rfl⟩ ⟨Nat.le_of_ble_eq_true rfl, Nat.le_of_ble_eq_true rfl⟩ ⟨Nat.le_of_ble_eq_true rfl, Nat.le_of_ble_eq_true rfl⟩ dX8_meetsAll_15) hS (fun H locs hb_p2 hP hS => ?_)
        refine lv_if_eq (tgt := 45) hx hb dX8_meetsAll_18 (by decide) (fun c => ?_) (fun c => ?_)
        · have h := (if_pos c).symm.trans h
          refine lv_iinc (v := (v2_3 + (1 : Int32))) (lv' := [(3, .int (v2_3 + (1 : Int32))), (0, .ref (G.2.1 0)), (1, .int v2_1), (2, .int v2_2)]) hx hb dX8_meetsAll_45 hl (k := 3) rfl rfl (by decide) rfl (fun ls hl => ?_)
          refine lv_goto (tgt := 2) hx hb dX8_meetsAll_48 (by decide) ?_
          exact ih v2_1 v2_2 (v2_3 + (1 : Int32)) p2.2 _ _ _ h hP hS (lv_sub hl [1, 2, 3, 0] rfl)
        · have h := (if_neg c).symm.trans h
          refine lv_aload_n hx hb dX8_meetsAll_21 rfl (lv_at hl 0 rfl) ?_
          refine va_get (D := G.1) (ci := 10) (v := .ref (G.2.1 1)) (C := RX8) (T := TX8) (N := 7) hx hb hts gx_X8 hown hT.2.1 hP 0 rfl rfl 0 (by decide) (hts _ gv_214) (fun _ h9 => h9) rfl dX8_meetsAll_22 ?_
          refine lv_iload_n hx hb dX8_meetsAll_25 rfl (lv_at hl 1 rfl) ?_
          obtain ⟨p3, gp3, h⟩ := Option.bind_eq_some_iff.mp h
          refine gw_ci (gw_rV (C := RX3) X hP hS (gc_X3_down l G v2_1 p2.2 _ gp3) gk_X3_down gv_302 ⟨gv_271, gv_272⟩ (va_recv hT.2.1 hP (ci := 6) (q0 := 1) rfl rfl) rfl rfl (Nat.le_of_ble_eq_true rfl) hl.1 ⟨rfl, rfl⟩ ⟨Nat.le_of_ble_eq_true rfl, Nat.le_of_ble_eq_true rfl⟩ ⟨Nat.le_of_ble_eq_true rfl, Nat.le_of_ble_eq_true rfl⟩ dX8_meetsAll_26) hS (fun H locs hP hS => ?_)
          refine lv_aload_n hx hb dX8_meetsAll_29 rfl (lv_at hl 0 rfl) ?_
          refine va_get (D := G.1) (ci := 10) (v := .ref (G.2.1 1)) (C := RX8) (T := TX8) (N := 7) hx hb hts gx_X8 hown hT.2.1 hP 0 rfl rfl 0 (by decide) (hts _ gv_214) (fun _ h9 => h9) rfl dX8_meetsAll_30 ?_
          refine lv_iload_n hx hb dX8_meetsAll_33 rfl (lv_at hl 3 rfl) ?_
          obtain ⟨p4, gp4, h⟩ := Option.bind_eq_some_iff.mp h
          refine gw_ci (gw_rV (C := RX3) X hP hS (gc_X3_down l G v2_3 p3.2 _ gp4) gk_X3_down gv_302 ⟨gv_271, gv_272⟩ (va_recv hT.2.1 hP (ci := 6) (q0 := 1) rfl rfl) rfl rfl (Nat.le_of_ble_eq_true rfl) hl.1 ⟨rfl, rfl⟩ ⟨Nat.le_of_ble_eq_true rfl, Nat.le_of_ble_eq_true rfl⟩ ⟨Nat.le_of_ble_eq_true rfl, Nat.le_of_ble_eq_true rfl⟩ dX8_meetsAll_34) hS (fun H locs hP hS => ?_)
          refine lv_iand hx hb dX8_meetsAll_37 ?_
          refine lv_iload_n hx hb dX8_meetsAll_38 rfl (lv_at hl 2 rfl) ?_
          refine lv_iand hx hb dX8_meetsAll_39 ?_
          refine lv_if_ne (tgt := 45) hx hb dX8_meetsAll_40 (by decide) (fun c => ?_) (fun c => ?_)
          · have h := (if_neg c).symm.trans h
            refine lv_iinc (v := (v2_3 + (1 : Int32))) (lv' := [(3, .int (v2_3 + (1 : Int32))), (0, .ref (G.2.1 0)), (1, .int v2_1), (2, .int v2_2)]) hx hb dX8_meetsAll_45 hl (k := 3) rfl rfl (by decide) rfl (fun ls hl => ?_)
            refine lv_goto (tgt := 2) hx hb dX8_meetsAll_48 (by decide) ?_
            exact ih v2_1 v2_2 (v2_3 + (1 : Int32)) p4.2 _ _ _ h hP hS (lv_sub hl [1, 2, 3, 0] rfl)
          · have h := (if_pos c).symm.trans h
            refine lv_iconst (v := 0) hx hb dX8_meetsAll_43 (by decide) ?_
            exact gw_rz X hP hS rfl h dX8_meetsAll_44
  unfold f_X8_meetsAll at h
  refine lv_iconst (v := 0) hx hb dX8_meetsAll_0 (by decide) ?_
  refine lv_istore_n (lv' := [(3, .int (0 : Int32)), (0, .ref (G.2.1 0)), (1, .int a0), (2, .int a1)]) hx hb dX8_meetsAll_1 rfl hl (by decide) rfl (fun ls hl => ?_)
  exact L2 64 a0 a1 (0 : Int32) σ _ _ _ h hP hS (lv_sub hl [1, 2, 3, 0] rfl)
def f_X8_isFilter_L13 : Nat → Int32 → Int32 → gw_S → Option ((Int32 ⊕ String) × gw_S)
  | 0, _, _, _ => none
  | n + 1, v13_1, v13_2, σ => ((f_X3_size  σ).bind fun p3 => (if p3.1 ≤ v13_2 then (some (Sum.inl (1 : Int32), p3.2)) else ((f_X8_contains v13_1 v13_2 p3.2).bind fun p4 => (if p4.1 = 0 then (f_X8_isFilter_L13 n v13_1 (v13_2 + (1 : Int32)) p4.2) else ((f_X3_up v13_2 p4.2).bind fun p5 => ((f_X8_isPart p5.1 v13_1 p5.2).bind fun p6 => (if p6.1 = 0 then (some (Sum.inl (0 : Int32), p6.2)) else ((f_X8_meetsAll v13_2 v13_1 p6.2).bind fun p7 => (if p7.1 = 0 then (some (Sum.inl (0 : Int32), p7.2)) else (f_X8_isFilter_L13 n v13_1 (v13_2 + (1 : Int32)) p7.2))))))))))
def f_X8_isFilter (a0 : Int32) (σ : gw_S) : Option ((Int32 ⊕ String) × gw_S) := ((f_X8_needSet a0 σ).bind fun q2 => gw_bx q2 fun u1 => (if a0 = 0 then (some (Sum.inl (0 : Int32), u1)) else (f_X8_isFilter_L13 64 a0 (0 : Int32) u1)))
set_option maxHeartbeats 4000000 in
set_option maxRecDepth 100000 in
theorem gc_X8_isFilter (l : Launch) (hfl : l.stackTraces = false) (G : gw_G) (a0 : Int32) (σ : gw_S) (o : ((Int32 ⊕ String) × gw_S)) (h : f_X8_isFilter a0 σ = some o) : gw_N (fun sz => gw_xZ G sz o) (fun sz => gw_XC G sz o) 1 l yX8_isFilter cX8_isFilter 3 (some .boolean) { frames := 7, cells := 1, slots := 6, locals := 103 } G [.ref (G.2.1 0), .int a0] σ := by
  refine gw_enx (own := RX8) (lv := [(0, .ref (G.2.1 0)), (1, .int a0)]) (by decide +kernel) rfl (Nat.le_of_ble_eq_true rfl) rfl ?_
  intro p e s m below meth c ls X hl hP
  obtain ⟨hx, hb, hml, hown, hts, -, -, hT, hZ, -⟩ := id X
  have hS : va_S (gw_A G s.heap.size) s.heap s.heap [] := va_S.rf
  have L13 : ∀ (n : Nat) (v13_1 : Int32) (v13_2 : Int32) (σ : gw_S) (H : Heap) (locs : List Loc) (ls : Array Slot), f_X8_isFilter_L13 n v13_1 v13_2 σ = some o → gw_P G σ H → va_S (gw_A G s.heap.size) s.heap H locs → lv_has ls 3 [(0, .ref (G.2.1 0)), (1, .int v13_1), (2, .int v13_2)] → W p l e { frames := 7, cells := 1, slots := 6, locals := 103 } s m [.ref (G.2.1 0), .int a0].toArray below meth c H locs 1 (6 * 1) (vx_MQ below (gw_xZ G s.heap.size o) (gw_XC G s.heap.size o) [.ref (G.2.1 0), .int a0].toArray s 1 (6 * 1) (gw_A G s.heap.size)) (F0 m 13 ls []) := by
    intro n
    induction n with
    | zero =>
      intro v13_1 v13_2 σ H locs ls h
      exact absurd h (by rw [f_X8_isFilter_L13.eq_1]; exact fun h => nomatch h)
    | succ n ih =>
      intro v13_1 v13_2 σ H locs ls h hP hS hl
      rw [f_X8_isFilter_L13.eq_2] at h
      refine lv_iload_n hx hb dX8_isFilter_13 rfl (lv_at hl 2 rfl) ?_
      refine lv_aload_n hx hb dX8_isFilter_14 rfl (lv_at hl 0 rfl) ?_
      refine va_get (D := G.1) (ci := 10) (v := .ref (G.2.1 1)) (C := RX8) (T := TX8) (N := 7) hx hb hts gx_X8 hown hT.2.1 hP 0 rfl rfl 0 (by decide) (hts _ gv_214) (fun _ h9 => h9) rfl dX8_isFilter_15 ?_
      obtain ⟨p3, gp3, h⟩ := Option.bind_eq_some_iff.mp h
      refine gw_ci (gw_rV (C := RX3) X hP hS (gc_X3_size l G  σ _ gp3) gk_X3_size gv_258 ⟨gv_259, gv_260⟩ (va_recv hT.2.1 hP (ci := 6) (q0 := 1) rfl rfl) rfl rfl (Nat.le_of_ble_eq_true rfl) hl.1 ⟨rfl, rfl⟩ ⟨Nat.le_of_ble_eq_true rfl, Nat.le_of_ble_eq_true rfl⟩ ⟨Nat.le_of_ble_eq_true rfl, Nat.le_of_ble_eq_true rfl⟩ dX8_isFilter_18) hS (fun H locs hP hS => ?_)
      refine lv_icmp_ge (tgt := 64) hx hb dX8_isFilter_21 (by decide) (fun c => ?_) (fun c => ?_)
      · have h := (if_pos c).symm.trans h
        refine lv_iconst (v := 1) hx hb dX8_isFilter_64 (by decide) ?_
        exact gw_xrz X hP hS rfl (Nat.le_of_ble_eq_true rfl) (Nat.le_of_ble_eq_true rfl) h dX8_isFilter_65
      · have h := (if_neg c).symm.trans h
        refine lv_iload_n hx hb dX8_isFilter_24 rfl (lv_at hl 1 rfl) ?_
        refine lv_iload_n hx hb dX8_isFilter_25 rfl (lv_at hl 2 rfl) ?_
        obtain ⟨p4, gp4, h⟩ := Option.bind_eq_some_iff.mp h
        refine gw_cz (gw_rS X hP hS (gc_X8_contains l G v13_1 v13_2 p3.2 _ gp4) gk_X8_contains gv_485 gv_278 rfl rfl (Nat.le_of_ble_eq_true rfl) hl.1 ⟨rfl, rfl⟩ ⟨Nat.le_of_ble_eq_true rfl, Nat.le_of_ble_eq_true rfl⟩ ⟨Nat.le_of_ble_eq_true rfl, Nat.le_of_ble_eq_true rfl⟩ dX8_isFilter_26) hS (fun H locs hb_p4 hP hS => ?_)
        refine lv_if_eq (tgt := 58) hx hb dX8_isFilter_29 (by decide) (fun c => ?_) (fun c => ?_)
        · have h := (if_pos c).symm.trans h
          refine lv_iinc (v := (v13_2 + (1 : Int32))) (lv' := [(2, .int (v13_2 + (1 : Int32))), (0, .ref (G.2.1 0)), (1, .int v13_1)]) hx hb dX8_isFilter_58 hl (k := 2) rfl rfl (by decide) rfl (fun ls hl => ?_)
          refine lv_goto (tgt := 13) hx hb dX8_isFilter_61 (by decide) ?_
          exact ih v13_1 (v13_2 + (1 : Int32)) p4.2 _ _ _ h hP hS (lv_sub hl [1, 2, 0] rfl)
        · have h := (if_neg c).symm.trans h
          refine lv_aload_n hx hb dX8_isFilter_32 rfl (lv_at hl 0 rfl) ?_
          refine va_get (D := G.1) (ci := 10) (v := .ref (G.2.1 1)) (C := RX8) (T := TX8) (N := 7) hx hb hts gx_X8 hown hT.2.1 hP 0 rfl rfl 0 (by decide) (hts _ gv_214) (fun _ h9 => h9) rfl dX8_isFilter_33 ?_
          refine lv_iload_n hx hb dX8_isFilter_36 rfl (lv_at hl 2 rfl) ?_
          obtain ⟨p5, gp5, h⟩ := Option.bind_eq_some_iff.mp h
          refine gw_ci (gw_rV (C := RX3) X hP hS (gc_X3_up l G v13_2 p4.2 _ gp5) gk_X3_up gv_752 ⟨gv_753, gv_754⟩ (va_recv hT.2.1 hP (ci := 6) (q0 := 1) rfl rfl) rfl rfl (Nat.le_of_ble_eq_true rfl) hl.1 ⟨rfl, rfl⟩ ⟨Nat.le_of_ble_eq_true rfl, Nat.le_of_ble_eq_true rfl⟩ ⟨Nat.le_of_ble_eq_true rfl, Nat.le_of_ble_eq_true rfl⟩ dX8_isFilter_37) hS (fun H locs hP hS => ?_)
          refine lv_iload_n hx hb dX8_isFilter_40 rfl (lv_at hl 1 rfl) ?_
          obtain ⟨p6, gp6, h⟩ := Option.bind_eq_some_iff.mp h
          refine gw_cz (gw_rS X hP hS (gc_X8_isPart l G p5.1 v13_1 p5.2 _ gp6) gk_X8_isPart gv_487 gv_392 rfl rfl (Nat.le_of_ble_eq_true rfl) hl.1 ⟨rfl, rfl⟩ ⟨Nat.le_of_ble_eq_true rfl, Nat.le_of_ble_eq_true rfl⟩ ⟨Nat.le_of_ble_eq_true rfl, Nat.le_of_ble_eq_true rfl⟩ dX8_isFilter_41) hS (fun H locs hb_p6 hP hS => ?_)
          refine lv_if_eq (tgt := 56) hx hb dX8_isFilter_44 (by decide) (fun c => ?_) (fun c => ?_)
          · have h := (if_pos c).symm.trans h
            refine lv_iconst (v := 0) hx hb dX8_isFilter_56 (by decide) ?_
            exact gw_xrz X hP hS rfl (Nat.le_of_ble_eq_true rfl) (Nat.le_of_ble_eq_true rfl) h dX8_isFilter_57
          · have h := (if_neg c).symm.trans h
            refine lv_aload_n hx hb dX8_isFilter_47 rfl (lv_at hl 0 rfl) ?_
            refine lv_iload_n hx hb dX8_isFilter_48 rfl (lv_at hl 2 rfl) ?_
            refine lv_iload_n hx hb dX8_isFilter_49 rfl (lv_at hl 1 rfl) ?_
            obtain ⟨p7, gp7, h⟩ := Option.bind_eq_some_iff.mp h
            refine gw_cz (gw_rV (C := RX8) X hP hS (gc_X8_meetsAll l G v13_2 v13_1 p6.2 _ gp7) gk_X8_meetsAll gv_756 ⟨gv_758, gv_s10⟩ (va_recv hT.2.1 hP (ci := 10) (q0 := 0) rfl rfl) rfl rfl (Nat.le_of_ble_eq_true rfl) hl.1 ⟨rfl, rfl⟩ ⟨Nat.le_of_ble_eq_true rfl, Nat.le_of_ble_eq_true rfl⟩ ⟨Nat.le_of_ble_eq_true rfl, Nat.le_of_ble_eq_true rfl⟩ dX8_isFilter_50) hS (fun H locs hb_p7 hP hS => ?_)
            refine lv_if_ne (tgt := 58) hx hb dX8_isFilter_53 (by decide) (fun c => ?_) (fun c => ?_)
            · have h := (if_neg c).symm.trans h
              refine lv_iinc (v := (v13_2 + (1 : Int32))) (lv' := [(2, .int (v13_2 + (1 : Int32))), (0, .ref (G.2.1 0)), (1, .int v13_1)]) hx hb dX8_isFilter_58 hl (k := 2) rfl rfl (by decide) rfl (fun ls hl => ?_)
              refine lv_goto (tgt := 13) hx hb dX8_isFilter_61 (by decide) ?_
              exact ih v13_1 (v13_2 + (1 : Int32)) p7.2 _ _ _ h hP hS (lv_sub hl [1, 2, 0] rfl)
            · have h := (if_pos c).symm.trans h
              refine lv_iconst (v := 0) hx hb dX8_isFilter_56 (by decide) ?_
              exact gw_xrz X hP hS rfl (Nat.le_of_ble_eq_true rfl) (Nat.le_of_ble_eq_true rfl) h dX8_isFilter_57
  unfold f_X8_isFilter at h
  refine lv_aload_n hx hb dX8_isFilter_0 rfl (lv_at hl 0 rfl) ?_
  refine lv_iload_n hx hb dX8_isFilter_1 rfl (lv_at hl 1 rfl) ?_
  obtain ⟨q2, gq2, h⟩ := Option.bind_eq_some_iff.mp h
  refine gw_cx X h (gw_xV_ (C := RX8) X hP hS (gc_X8_needSet l hfl G a0 σ _ gq2) gk_X8_needSet gv_717 ⟨gv_719, gv_s9⟩ (va_recv hT.2.1 hP (ci := 10) (q0 := 0) rfl rfl) rfl rfl (Nat.le_of_ble_eq_true rfl) hl.1 ⟨rfl, rfl⟩ ⟨Nat.le_of_ble_eq_true rfl, Nat.le_of_ble_eq_true rfl⟩ ⟨Nat.le_of_ble_eq_true rfl, Nat.le_of_ble_eq_true rfl⟩ dX8_isFilter_2) hS (Nat.le_of_ble_eq_true rfl) (Nat.le_of_ble_eq_true rfl) (fun u1 H locs h hP hS => ?_)
  refine lv_iload_n hx hb dX8_isFilter_5 rfl (lv_at hl 1 rfl) ?_
  refine lv_if_ne (tgt := 11) hx hb dX8_isFilter_6 (by decide) (fun c => ?_) (fun c => ?_)
  · have h := (if_neg c).symm.trans h
    refine lv_iconst (v := 0) hx hb dX8_isFilter_11 (by decide) ?_
    refine lv_istore_n (lv' := [(2, .int (0 : Int32)), (0, .ref (G.2.1 0)), (1, .int a0)]) hx hb dX8_isFilter_12 rfl hl (by decide) rfl (fun ls hl => ?_)
    exact L13 64 a0 (0 : Int32) u1 _ _ _ h hP hS (lv_sub hl [1, 2, 0] rfl)
  · have h := (if_pos c).symm.trans h
    refine lv_iconst (v := 0) hx hb dX8_isFilter_9 (by decide) ?_
    exact gw_xrz X hP hS rfl (Nat.le_of_ble_eq_true rfl) (Nat.le_of_ble_eq_true rfl) h dX8_isFilter_10
def f_X8_filters (σ : gw_S) : Option (Int32 × gw_S) := ((f_X3_size  σ).bind fun p1 => (some (p1.1, p1.2)))
set_option maxHeartbeats 4000000 in
set_option maxRecDepth 100000 in
theorem gc_X8_filters (l : Launch) (G : gw_G) (σ : gw_S) (o : (Int32 × gw_S)) (h : f_X8_filters σ = some o) : gw_M (fun sz => gw_QI G sz o) l yX8_filters cX8_filters 1 (some .int) { frames := 1, cells := 0, slots := 0, locals := 20 } G [.ref (G.2.1 0)] σ := by
  refine gw_en (own := RX8) (lv := [(0, .ref (G.2.1 0))]) (by decide +kernel) rfl (Nat.le_of_ble_eq_true rfl) rfl ?_
  intro p e s m below meth c ls X hl hP
  obtain ⟨hx, hb, hml, hown, hts, -, -, hT, hZ, -⟩ := id X
  have hS : va_S (gw_A G s.heap.size) s.heap s.heap [] := va_S.rf
  unfold f_X8_filters at h
  refine lv_aload_n hx hb dX8_filters_0 rfl (lv_at hl 0 rfl) ?_
  refine va_get (D := G.1) (ci := 10) (v := .ref (G.2.1 1)) (C := RX8) (T := TX8) (N := 7) hx hb hts gx_X8 hown hT.2.1 hP 0 rfl rfl 0 (by decide) (hts _ gv_214) (fun _ h9 => h9) rfl dX8_filters_1 ?_
  obtain ⟨p1, gp1, h⟩ := Option.bind_eq_some_iff.mp h
  refine gw_ci (gw_rV (C := RX3) X hP hS (gc_X3_size l G  σ _ gp1) gk_X3_size gv_258 ⟨gv_259, gv_260⟩ (va_recv hT.2.1 hP (ci := 6) (q0 := 1) rfl rfl) rfl rfl (Nat.le_of_ble_eq_true rfl) hl.1 ⟨rfl, rfl⟩ ⟨Nat.le_of_ble_eq_true rfl, Nat.le_of_ble_eq_true rfl⟩ ⟨Nat.le_of_ble_eq_true rfl, Nat.le_of_ble_eq_true rfl⟩ dX8_filters_4) hS (fun H locs hP hS => ?_)
  exact gw_ri X hP hS h dX8_filters_7
def f_X8_canAvoid_L2 : Nat → Int32 → Int32 → Int32 → gw_S → Option (Int32 × gw_S)
  | 0, _, _, _, _ => none
  | n + 1, v2_1, v2_2, v2_3, σ => ((f_X3_size  σ).bind fun p1 => (if p1.1 ≤ v2_3 then (some ((0 : Int32), p1.2)) else ((f_X3_stands v2_3 v2_1 p1.2).bind fun p2 => (if p2.1 = 0 then (f_X8_canAvoid_L2 n v2_1 v2_2 (v2_3 + (1 : Int32)) p2.2) else ((f_X3_agree v2_3 v2_2 p2.2).bind fun p3 => (if p3.1 = 0 then (some ((1 : Int32), p3.2)) else (f_X8_canAvoid_L2 n v2_1 v2_2 (v2_3 + (1 : Int32)) p3.2)))))))
def f_X8_canAvoid (a0 : Int32) (a1 : Int32) (σ : gw_S) : Option (Int32 × gw_S) := (f_X8_canAvoid_L2 64 a0 a1 (0 : Int32) σ)
set_option maxHeartbeats 4000000 in
set_option maxRecDepth 100000 in
theorem gc_X8_canAvoid (l : Launch) (G : gw_G) (a0 : Int32) (a1 : Int32) (σ : gw_S) (o : (Int32 × gw_S)) (h : f_X8_canAvoid a0 a1 σ = some o) : gw_M (fun sz => gw_QZ G sz o) l yX8_canAvoid cX8_canAvoid 4 (some .boolean) { frames := 3, cells := 0, slots := 0, locals := 64 } G [.ref (G.2.1 0), .int a0, .int a1] σ := by
  refine gw_en (own := RX8) (lv := [(0, .ref (G.2.1 0)), (1, .int a0), (2, .int a1)]) (by decide +kernel) rfl (Nat.le_of_ble_eq_true rfl) rfl ?_
  intro p e s m below meth c ls X hl hP
  obtain ⟨hx, hb, hml, hown, hts, -, -, hT, hZ, -⟩ := id X
  have hS : va_S (gw_A G s.heap.size) s.heap s.heap [] := va_S.rf
  have L2 : ∀ (n : Nat) (v2_1 : Int32) (v2_2 : Int32) (v2_3 : Int32) (σ : gw_S) (H : Heap) (locs : List Loc) (ls : Array Slot), f_X8_canAvoid_L2 n v2_1 v2_2 v2_3 σ = some o → gw_P G σ H → va_S (gw_A G s.heap.size) s.heap H locs → lv_has ls 4 [(0, .ref (G.2.1 0)), (1, .int v2_1), (2, .int v2_2), (3, .int v2_3)] → W p l e { frames := 3, cells := 0, slots := 0, locals := 64 } s m [.ref (G.2.1 0), .int a0, .int a1].toArray below meth c H locs 0 0 (MQ below (gw_QZ G s.heap.size o) [.ref (G.2.1 0), .int a0, .int a1].toArray s 0 0 (gw_A G s.heap.size)) (F0 m 2 ls []) := by
    intro n
    induction n with
    | zero =>
      intro v2_1 v2_2 v2_3 σ H locs ls h
      exact absurd h (by rw [f_X8_canAvoid_L2.eq_1]; exact fun h => nomatch h)
    | succ n ih =>
      intro v2_1 v2_2 v2_3 σ H locs ls h hP hS hl
      rw [f_X8_canAvoid_L2.eq_2] at h
      refine lv_iload_n hx hb dX8_canAvoid_2 rfl (lv_at hl 3 rfl) ?_
      refine lv_aload_n hx hb dX8_canAvoid_3 rfl (lv_at hl 0 rfl) ?_
      refine va_get (D := G.1) (ci := 10) (v := .ref (G.2.1 1)) (C := RX8) (T := TX8) (N := 7) hx hb hts gx_X8 hown hT.2.1 hP 0 rfl rfl 0 (by decide) (hts _ gv_214) (fun _ h9 => h9) rfl dX8_canAvoid_4 ?_
      obtain ⟨p1, gp1, h⟩ := Option.bind_eq_some_iff.mp h
      refine gw_ci (gw_rV (C := RX3) X hP hS (gc_X3_size l G  σ _ gp1) gk_X3_size gv_258 ⟨gv_259, gv_260⟩ (va_recv hT.2.1 hP (ci := 6) (q0 := 1) rfl rfl) rfl rfl (Nat.le_of_ble_eq_true rfl) hl.1 ⟨rfl, rfl⟩ ⟨Nat.le_of_ble_eq_true rfl, Nat.le_of_ble_eq_true rfl⟩ ⟨Nat.le_of_ble_eq_true rfl, Nat.le_of_ble_eq_true rfl⟩ dX8_canAvoid_7) hS (fun H locs hP hS => ?_)
      refine lv_icmp_ge (tgt := 45) hx hb dX8_canAvoid_10 (by decide) (fun c => ?_) (fun c => ?_)
      · have h := (if_pos c).symm.trans h
        refine lv_iconst (v := 0) hx hb dX8_canAvoid_45 (by decide) ?_
        exact gw_rz X hP hS rfl h dX8_canAvoid_46
      · have h := (if_neg c).symm.trans h
        refine lv_aload_n hx hb dX8_canAvoid_13 rfl (lv_at hl 0 rfl) ?_
        refine va_get (D := G.1) (ci := 10) (v := .ref (G.2.1 1)) (C := RX8) (T := TX8) (N := 7) hx hb hts gx_X8 hown hT.2.1 hP 0 rfl rfl 0 (by decide) (hts _ gv_214) (fun _ h9 => h9) rfl dX8_canAvoid_14 ?_
        refine lv_iload_n hx hb dX8_canAvoid_17 rfl (lv_at hl 3 rfl) ?_
        refine lv_iload_n hx hb dX8_canAvoid_18 rfl (lv_at hl 1 rfl) ?_
        obtain ⟨p2, gp2, h⟩ := Option.bind_eq_some_iff.mp h
        refine gw_cz (gw_rV (C := RX3) X hP hS (gc_X3_stands l G v2_3 v2_1 p1.2 _ gp2) gk_X3_stands gv_266 ⟨gv_267, gv_268⟩ (va_recv hT.2.1 hP (ci := 6) (q0 := 1) rfl rfl) rfl rfl (Nat.le_of_ble_eq_true rfl) hl.1 ⟨rfl, rfl⟩ ⟨Nat.le_of_ble_eq_true rfl, Nat.le_of_ble_eq_true rfl⟩ ⟨Nat.le_of_ble_eq_true rfl, Nat.le_of_ble_eq_true rfl⟩ dX8_canAvoid_19) hS (fun H locs hb_p2 hP hS => ?_)
        refine lv_if_eq (tgt := 39) hx hb dX8_canAvoid_22 (by decide) (fun c => ?_) (fun c => ?_)
        · have h := (if_pos c).symm.trans h
          refine lv_iinc (v := (v2_3 + (1 : Int32))) (lv' := [(3, .int (v2_3 + (1 : Int32))), (0, .ref (G.2.1 0)), (1, .int v2_1), (2, .int v2_2)]) hx hb dX8_canAvoid_39 hl (k := 3) rfl rfl (by decide) rfl (fun ls hl => ?_)
          refine lv_goto (tgt := 2) hx hb dX8_canAvoid_42 (by decide) ?_
          exact ih v2_1 v2_2 (v2_3 + (1 : Int32)) p2.2 _ _ _ h hP hS (lv_sub hl [1, 2, 3, 0] rfl)
        · have h := (if_neg c).symm.trans h
          refine lv_aload_n hx hb dX8_canAvoid_25 rfl (lv_at hl 0 rfl) ?_
          refine va_get (D := G.1) (ci := 10) (v := .ref (G.2.1 1)) (C := RX8) (T := TX8) (N := 7) hx hb hts gx_X8 hown hT.2.1 hP 0 rfl rfl 0 (by decide) (hts _ gv_214) (fun _ h9 => h9) rfl dX8_canAvoid_26 ?_
          refine lv_iload_n hx hb dX8_canAvoid_29 rfl (lv_at hl 3 rfl) ?_
          refine lv_iload_n hx hb dX8_canAvoid_30 rfl (lv_at hl 2 rfl) ?_
          obtain ⟨p3, gp3, h⟩ := Option.bind_eq_some_iff.mp h
          refine gw_cz (gw_rV (C := RX3) X hP hS (gc_X3_agree l G v2_3 v2_2 p2.2 _ gp3) gk_X3_agree gv_284 ⟨gv_285, gv_286⟩ (va_recv hT.2.1 hP (ci := 6) (q0 := 1) rfl rfl) rfl rfl (Nat.le_of_ble_eq_true rfl) hl.1 ⟨rfl, rfl⟩ ⟨Nat.le_of_ble_eq_true rfl, Nat.le_of_ble_eq_true rfl⟩ ⟨Nat.le_of_ble_eq_true rfl, Nat.le_of_ble_eq_true rfl⟩ dX8_canAvoid_31) hS (fun H locs hb_p3 hP hS => ?_)
          refine lv_if_ne (tgt := 39) hx hb dX8_canAvoid_34 (by decide) (fun c => ?_) (fun c => ?_)
          · have h := (if_neg c).symm.trans h
            refine lv_iinc (v := (v2_3 + (1 : Int32))) (lv' := [(3, .int (v2_3 + (1 : Int32))), (0, .ref (G.2.1 0)), (1, .int v2_1), (2, .int v2_2)]) hx hb dX8_canAvoid_39 hl (k := 3) rfl rfl (by decide) rfl (fun ls hl => ?_)
            refine lv_goto (tgt := 2) hx hb dX8_canAvoid_42 (by decide) ?_
            exact ih v2_1 v2_2 (v2_3 + (1 : Int32)) p3.2 _ _ _ h hP hS (lv_sub hl [1, 2, 3, 0] rfl)
          · have h := (if_pos c).symm.trans h
            refine lv_iconst (v := 1) hx hb dX8_canAvoid_37 (by decide) ?_
            exact gw_rz X hP hS rfl h dX8_canAvoid_38
  unfold f_X8_canAvoid at h
  refine lv_iconst (v := 0) hx hb dX8_canAvoid_0 (by decide) ?_
  refine lv_istore_n (lv' := [(3, .int (0 : Int32)), (0, .ref (G.2.1 0)), (1, .int a0), (2, .int a1)]) hx hb dX8_canAvoid_1 rfl hl (by decide) rfl (fun ls hl => ?_)
  exact L2 64 a0 a1 (0 : Int32) σ _ _ _ h hP hS (lv_sub hl [1, 2, 3, 0] rfl)
def f_X8_isSeparative_L15 : Nat → (Int32 → gw_S → Option (Int32 × gw_S)) → Int32 → Int32 → gw_S → Option (Int32 × gw_S)
  | 0, _, _, _, _ => none
  | n + 1, K, v15_1, v15_2, σ => ((f_X3_size  σ).bind fun p2 => (if p2.1 ≤ v15_2 then (K v15_1 p2.2) else ((f_X3_stands v15_1 v15_2 p2.2).bind fun p3 => (if p3.1 = 0 then ((f_X8_canAvoid v15_1 v15_2 p3.2).bind fun p4 => (if p4.1 = 0 then (some ((0 : Int32), p4.2)) else (f_X8_isSeparative_L15 n K v15_1 (v15_2 + (1 : Int32)) p4.2))) else (f_X8_isSeparative_L15 n K v15_1 (v15_2 + (1 : Int32)) p3.2)))))
def f_X8_isSeparative_L2 : Nat → Int32 → gw_S → Option (Int32 × gw_S)
  | 0, _, _ => none
  | n + 1, v2_1, σ => ((f_X3_size  σ).bind fun p1 => (if p1.1 ≤ v2_1 then (some ((1 : Int32), p1.2)) else (f_X8_isSeparative_L15 64 (fun w15_1 σ15 => (f_X8_isSeparative_L2 n (w15_1 + (1 : Int32)) σ15)) v2_1 (0 : Int32) p1.2)))
def f_X8_isSeparative (σ : gw_S) : Option (Int32 × gw_S) := (f_X8_isSeparative_L2 64 (0 : Int32) σ)
set_option maxHeartbeats 4000000 in
set_option maxRecDepth 100000 in
theorem gc_X8_isSeparative (l : Launch) (G : gw_G) (σ : gw_S) (o : (Int32 × gw_S)) (h : f_X8_isSeparative σ = some o) : gw_M (fun sz => gw_QZ G sz o) l yX8_isSeparative cX8_isSeparative 3 (some .boolean) { frames := 4, cells := 0, slots := 0, locals := 87 } G [.ref (G.2.1 0)] σ := by
  refine gw_en (own := RX8) (lv := [(0, .ref (G.2.1 0))]) (by decide +kernel) rfl (Nat.le_of_ble_eq_true rfl) rfl ?_
  intro p e s m below meth c ls X hl hP
  obtain ⟨hx, hb, hml, hown, hts, -, -, hT, hZ, -⟩ := id X
  have hS : va_S (gw_A G s.heap.size) s.heap s.heap [] := va_S.rf
  have L15 : ∀ (n : Nat) (K : Int32 → gw_S → Option (Int32 × gw_S)) (v15_1 : Int32) (v15_2 : Int32) (σ : gw_S) (H : Heap) (locs : List Loc) (ls : Array Slot), f_X8_isSeparative_L15 n K v15_1 v15_2 σ = some o → gw_P G σ H → va_S (gw_A G s.heap.size) s.heap H locs → lv_has ls 3 [(0, .ref (G.2.1 0)), (1, .int v15_1), (2, .int v15_2)] → (∀ (w1 : Int32) (σ : gw_S) (H : Heap) (locs : List Loc) (ls : Array Slot), K w1 σ = some o → gw_P G σ H → va_S (gw_A G s.heap.size) s.heap H locs → lv_has ls 3 [(0, .ref (G.2.1 0)), (1, .int w1)] → W p l e { frames := 4, cells := 0, slots := 0, locals := 87 } s m [.ref (G.2.1 0)].toArray below meth c H locs 0 0 (MQ below (gw_QZ G s.heap.size o) [.ref (G.2.1 0)].toArray s 0 0 (gw_A G s.heap.size)) (F0 m 55 ls [])) → W p l e { frames := 4, cells := 0, slots := 0, locals := 87 } s m [.ref (G.2.1 0)].toArray below meth c H locs 0 0 (MQ below (gw_QZ G s.heap.size o) [.ref (G.2.1 0)].toArray s 0 0 (gw_A G s.heap.size)) (F0 m 15 ls []) := by
    intro n K
    induction n with
    | zero =>
      intro v15_1 v15_2 σ H locs ls h
      exact absurd h (by rw [f_X8_isSeparative_L15.eq_1]; exact fun h => nomatch h)
    | succ n ih =>
      intro v15_1 v15_2 σ H locs ls h hP hS hl hK
      rw [f_X8_isSeparative_L15.eq_2] at h
      refine lv_iload_n hx hb dX8_isSeparative_15 rfl (lv_at hl 2 rfl) ?_
      refine lv_aload_n hx hb dX8_isSeparative_16 rfl (lv_at hl 0 rfl) ?_
      refine va_get (D := G.1) (ci := 10) (v := .ref (G.2.1 1)) (C := RX8) (T := TX8) (N := 7) hx hb hts gx_X8 hown hT.2.1 hP 0 rfl rfl 0 (by decide) (hts _ gv_214) (fun _ h9 => h9) rfl dX8_isSeparative_17 ?_
      obtain ⟨p2, gp2, h⟩ := Option.bind_eq_some_iff.mp h
      refine gw_ci (gw_rV (C := RX3) X hP hS (gc_X3_size l G  σ _ gp2) gk_X3_size gv_258 ⟨gv_259, gv_260⟩ (va_recv hT.2.1 hP (ci := 6) (q0 := 1) rfl rfl) rfl rfl (Nat.le_of_ble_eq_true rfl) hl.1 ⟨rfl, rfl⟩ ⟨Nat.le_of_ble_eq_true rfl, Nat.le_of_ble_eq_true rfl⟩ ⟨Nat.le_of_ble_eq_true rfl, Nat.le_of_ble_eq_true rfl⟩ dX8_isSeparative_20) hS (fun H locs hP hS => ?_)
      refine lv_icmp_ge (tgt := 55) hx hb dX8_isSeparative_23 (by decide) (fun c => ?_) (fun c => ?_)
      · have h := (if_pos c).symm.trans h
        exact hK v15_1 p2.2 _ _ _ h hP hS (lv_sub hl [0, 1] rfl)
      · have h := (if_neg c).symm.trans h
        refine lv_aload_n hx hb dX8_isSeparative_26 rfl (lv_at hl 0 rfl) ?_
        refine va_get (D := G.1) (ci := 10) (v := .ref (G.2.1 1)) (C := RX8) (T := TX8) (N := 7) hx hb hts gx_X8 hown hT.2.1 hP 0 rfl rfl 0 (by decide) (hts _ gv_214) (fun _ h9 => h9) rfl dX8_isSeparative_27 ?_
        refine lv_iload_n hx hb dX8_isSeparative_30 rfl (lv_at hl 1 rfl) ?_
        refine lv_iload_n hx hb dX8_isSeparative_31 rfl (lv_at hl 2 rfl) ?_
        obtain ⟨p3, gp3, h⟩ := Option.bind_eq_some_iff.mp h
        refine gw_cz (gw_rV (C := RX3) X hP hS (gc_X3_stands l G v15_1 v15_2 p2.2 _ gp3) gk_X3_stands gv_266 ⟨gv_267, gv_268⟩ (va_recv hT.2.1 hP (ci := 6) (q0 := 1) rfl rfl) rfl rfl (Nat.le_of_ble_eq_true rfl) hl.1 ⟨rfl, rfl⟩ ⟨Nat.le_of_ble_eq_true rfl, Nat.le_of_ble_eq_true rfl⟩ ⟨Nat.le_of_ble_eq_true rfl, Nat.le_of_ble_eq_true rfl⟩ dX8_isSeparative_32) hS (fun H locs hb_p3 hP hS => ?_)
        refine lv_if_ne (tgt := 49) hx hb dX8_isSeparative_35 (by decide) (fun c => ?_) (fun c => ?_)
        · have h := (if_neg c).symm.trans h
          refine lv_iinc (v := (v15_2 + (1 : Int32))) (lv' := [(2, .int (v15_2 + (1 : Int32))), (0, .ref (G.2.1 0)), (1, .int v15_1)]) hx hb dX8_isSeparative_49 hl (k := 2) rfl rfl (by decide) rfl (fun ls hl => ?_)
          refine lv_goto (tgt := 15) hx hb dX8_isSeparative_52 (by decide) ?_
          exact ih v15_1 (v15_2 + (1 : Int32)) p3.2 _ _ _ h hP hS (lv_sub hl [1, 2, 0] rfl) hK
        · have h := (if_pos c).symm.trans h
          refine lv_aload_n hx hb dX8_isSeparative_38 rfl (lv_at hl 0 rfl) ?_
          refine lv_iload_n hx hb dX8_isSeparative_39 rfl (lv_at hl 1 rfl) ?_
          refine lv_iload_n hx hb dX8_isSeparative_40 rfl (lv_at hl 2 rfl) ?_
          obtain ⟨p4, gp4, h⟩ := Option.bind_eq_some_iff.mp h
          refine gw_cz (gw_rV (C := RX8) X hP hS (gc_X8_canAvoid l G v15_1 v15_2 p3.2 _ gp4) gk_X8_canAvoid gv_280 ⟨gv_282, gv_s0⟩ (va_recv hT.2.1 hP (ci := 10) (q0 := 0) rfl rfl) rfl rfl (Nat.le_of_ble_eq_true rfl) hl.1 ⟨rfl, rfl⟩ ⟨Nat.le_of_ble_eq_true rfl, Nat.le_of_ble_eq_true rfl⟩ ⟨Nat.le_of_ble_eq_true rfl, Nat.le_of_ble_eq_true rfl⟩ dX8_isSeparative_41) hS (fun H locs hb_p4 hP hS => ?_)
          refine lv_if_ne (tgt := 49) hx hb dX8_isSeparative_44 (by decide) (fun c => ?_) (fun c => ?_)
          · have h := (if_neg c).symm.trans h
            refine lv_iinc (v := (v15_2 + (1 : Int32))) (lv' := [(2, .int (v15_2 + (1 : Int32))), (0, .ref (G.2.1 0)), (1, .int v15_1)]) hx hb dX8_isSeparative_49 hl (k := 2) rfl rfl (by decide) rfl (fun ls hl => ?_)
            refine lv_goto (tgt := 15) hx hb dX8_isSeparative_52 (by decide) ?_
            exact ih v15_1 (v15_2 + (1 : Int32)) p4.2 _ _ _ h hP hS (lv_sub hl [1, 2, 0] rfl) hK
          · have h := (if_pos c).symm.trans h
            refine lv_iconst (v := 0) hx hb dX8_isSeparative_47 (by decide) ?_
            exact gw_rz X hP hS rfl h dX8_isSeparative_48
  have L2 : ∀ (n : Nat) (v2_1 : Int32) (σ : gw_S) (H : Heap) (locs : List Loc) (ls : Array Slot), f_X8_isSeparative_L2 n v2_1 σ = some o → gw_P G σ H → va_S (gw_A G s.heap.size) s.heap H locs → lv_has ls 3 [(0, .ref (G.2.1 0)), (1, .int v2_1)] → W p l e { frames := 4, cells := 0, slots := 0, locals := 87 } s m [.ref (G.2.1 0)].toArray below meth c H locs 0 0 (MQ below (gw_QZ G s.heap.size o) [.ref (G.2.1 0)].toArray s 0 0 (gw_A G s.heap.size)) (F0 m 2 ls []) := by
    intro n
    induction n with
    | zero =>
      intro v2_1 σ H locs ls h
      exact absurd h (by rw [f_X8_isSeparative_L2.eq_1]; exact fun h => nomatch h)
    | succ n ih =>
      intro v2_1 σ H locs ls h hP hS hl
      rw [f_X8_isSeparative_L2.eq_2] at h
      refine lv_iload_n hx hb dX8_isSeparative_2 rfl (lv_at hl 1 rfl) ?_
      refine lv_aload_n hx hb dX8_isSeparative_3 rfl (lv_at hl 0 rfl) ?_
      refine va_get (D := G.1) (ci := 10) (v := .ref (G.2.1 1)) (C := RX8) (T := TX8) (N := 7) hx hb hts gx_X8 hown hT.2.1 hP 0 rfl rfl 0 (by decide) (hts _ gv_214) (fun _ h9 => h9) rfl dX8_isSeparative_4 ?_
      obtain ⟨p1, gp1, h⟩ := Option.bind_eq_some_iff.mp h
      refine gw_ci (gw_rV (C := RX3) X hP hS (gc_X3_size l G  σ _ gp1) gk_X3_size gv_258 ⟨gv_259, gv_260⟩ (va_recv hT.2.1 hP (ci := 6) (q0 := 1) rfl rfl) rfl rfl (Nat.le_of_ble_eq_true rfl) hl.1 ⟨rfl, rfl⟩ ⟨Nat.le_of_ble_eq_true rfl, Nat.le_of_ble_eq_true rfl⟩ ⟨Nat.le_of_ble_eq_true rfl, Nat.le_of_ble_eq_true rfl⟩ dX8_isSeparative_7) hS (fun H locs hP hS => ?_)
      refine lv_icmp_ge (tgt := 61) hx hb dX8_isSeparative_10 (by decide) (fun c => ?_) (fun c => ?_)
      · have h := (if_pos c).symm.trans h
        refine lv_iconst (v := 1) hx hb dX8_isSeparative_61 (by decide) ?_
        exact gw_rz X hP hS rfl h dX8_isSeparative_62
      · have h := (if_neg c).symm.trans h
        refine lv_iconst (v := 0) hx hb dX8_isSeparative_13 (by decide) ?_
        refine lv_istore_n (lv' := [(2, .int (0 : Int32)), (0, .ref (G.2.1 0)), (1, .int v2_1)]) hx hb dX8_isSeparative_14 rfl hl (by decide) rfl (fun ls hl => ?_)
        refine L15 64 _ v2_1 (0 : Int32) p1.2 _ _ _ h hP hS (lv_sub hl [1, 2, 0] rfl) (fun w15_1 σ15 H locs ls h hP hS hl => ?_)
        refine lv_iinc (v := (w15_1 + (1 : Int32))) (lv' := [(1, .int (w15_1 + (1 : Int32))), (0, .ref (G.2.1 0))]) hx hb dX8_isSeparative_55 hl (k := 1) rfl rfl (by decide) rfl (fun ls hl => ?_)
        refine lv_goto (tgt := 2) hx hb dX8_isSeparative_58 (by decide) ?_
        exact ih (w15_1 + (1 : Int32)) σ15 _ _ _ h hP hS (lv_sub hl [1, 0] rfl)
  unfold f_X8_isSeparative at h
  refine lv_iconst (v := 0) hx hb dX8_isSeparative_0 (by decide) ?_
  refine lv_istore_n (lv' := [(1, .int (0 : Int32)), (0, .ref (G.2.1 0))]) hx hb dX8_isSeparative_1 rfl hl (by decide) rfl (fun ls hl => ?_)
  exact L2 64 (0 : Int32) σ _ _ _ h hP hS (lv_sub hl [1, 0] rfl)
def f_X8_cut (a0 : Int32) (σ : gw_S) : Option ((Int32 ⊕ String) × gw_S) := ((f_X8_needCondition a0 σ).bind fun q2 => gw_bx q2 fun u1 => ((f_X3_endsOf a0 u1).bind fun p3 => (some (Sum.inl p3.1, p3.2))))
set_option maxHeartbeats 4000000 in
set_option maxRecDepth 100000 in
theorem gc_X8_cut (l : Launch) (hfl : l.stackTraces = false) (G : gw_G) (a0 : Int32) (σ : gw_S) (o : ((Int32 ⊕ String) × gw_S)) (h : f_X8_cut a0 σ = some o) : gw_N (fun sz => gw_xI G sz o) (fun sz => gw_XC G sz o) 1 l yX8_cut cX8_cut 2 (some .int) { frames := 7, cells := 1, slots := 6, locals := 103 } G [.ref (G.2.1 0), .int a0] σ := by
  refine gw_enx (own := RX8) (lv := [(0, .ref (G.2.1 0)), (1, .int a0)]) (by decide +kernel) rfl (Nat.le_of_ble_eq_true rfl) rfl ?_
  intro p e s m below meth c ls X hl hP
  obtain ⟨hx, hb, hml, hown, hts, -, -, hT, hZ, -⟩ := id X
  have hS : va_S (gw_A G s.heap.size) s.heap s.heap [] := va_S.rf
  unfold f_X8_cut at h
  refine lv_aload_n hx hb dX8_cut_0 rfl (lv_at hl 0 rfl) ?_
  refine lv_iload_n hx hb dX8_cut_1 rfl (lv_at hl 1 rfl) ?_
  obtain ⟨q2, gq2, h⟩ := Option.bind_eq_some_iff.mp h
  refine gw_cx X h (gw_xV_ (C := RX8) X hP hS (gc_X8_needCondition l hfl G a0 σ _ gq2) gk_X8_needCondition gv_645 ⟨gv_647, gv_s8⟩ (va_recv hT.2.1 hP (ci := 10) (q0 := 0) rfl rfl) rfl rfl (Nat.le_of_ble_eq_true rfl) hl.1 ⟨rfl, rfl⟩ ⟨Nat.le_of_ble_eq_true rfl, Nat.le_of_ble_eq_true rfl⟩ ⟨Nat.le_of_ble_eq_true rfl, Nat.le_of_ble_eq_true rfl⟩ dX8_cut_2) hS (Nat.le_of_ble_eq_true rfl) (Nat.le_of_ble_eq_true rfl) (fun u1 H locs h hP hS => ?_)
  refine lv_aload_n hx hb dX8_cut_5 rfl (lv_at hl 0 rfl) ?_
  refine va_get (D := G.1) (ci := 10) (v := .ref (G.2.1 1)) (C := RX8) (T := TX8) (N := 7) hx hb hts gx_X8 hown hT.2.1 hP 0 rfl rfl 0 (by decide) (hts _ gv_214) (fun _ h9 => h9) rfl dX8_cut_6 ?_
  refine lv_iload_n hx hb dX8_cut_9 rfl (lv_at hl 1 rfl) ?_
  obtain ⟨p3, gp3, h⟩ := Option.bind_eq_some_iff.mp h
  refine gw_ci (gw_rV (C := RX3) X hP hS (gc_X3_endsOf l G a0 u1 _ gp3) gk_X3_endsOf gv_486 ⟨gv_398, gv_399⟩ (va_recv hT.2.1 hP (ci := 6) (q0 := 1) rfl rfl) rfl rfl (Nat.le_of_ble_eq_true rfl) hl.1 ⟨rfl, rfl⟩ ⟨Nat.le_of_ble_eq_true rfl, Nat.le_of_ble_eq_true rfl⟩ ⟨Nat.le_of_ble_eq_true rfl, Nat.le_of_ble_eq_true rfl⟩ dX8_cut_10) hS (fun H locs hP hS => ?_)
  exact gw_xri X hP hS (Nat.le_of_ble_eq_true rfl) (Nat.le_of_ble_eq_true rfl) h dX8_cut_13
def f_X8_closure_L50 : Nat → Int32 → Int32 → Int32 → gw_S → Option ((Int32 ⊕ String) × gw_S)
  | 0, _, _, _, _ => none
  | n + 1, v50_2, v50_3, v50_4, σ => ((f_X3_size  σ).bind fun p4 => (if p4.1 ≤ v50_4 then (some (Sum.inl v50_3, p4.2)) else ((f_X3_endsOf v50_4 p4.2).bind fun p5 => ((f_X8_isPart p5.1 v50_2 p5.2).bind fun p6 => (if p6.1 = 0 then (f_X8_closure_L50 n v50_2 v50_3 (v50_4 + (1 : Int32)) p6.2) else (f_X8_closure_L50 n v50_2 (v50_3 ||| ((1 : Int32) <<< (v50_4 &&& 31))) (v50_4 + (1 : Int32)) p6.2))))))
def f_X8_closure_L9 : Nat → Int32 → Int32 → Int32 → gw_S → Option ((Int32 ⊕ String) × gw_S)
  | 0, _, _, _, _ => none
  | n + 1, v9_1, v9_2, v9_3, σ => ((f_X3_size  σ).bind fun p3 => (if p3.1 ≤ v9_3 then (f_X8_closure_L50 64 v9_2 (0 : Int32) (0 : Int32) p3.2) else ((f_X8_contains v9_1 v9_3 p3.2).bind fun p7 => (if p7.1 = 0 then (f_X8_closure_L9 n v9_1 v9_2 (v9_3 + (1 : Int32)) p7.2) else ((f_X3_endsOf v9_3 p7.2).bind fun p8 => (f_X8_closure_L9 n v9_1 (v9_2 ||| p8.1) (v9_3 + (1 : Int32)) p8.2))))))
def f_X8_closure (a0 : Int32) (σ : gw_S) : Option ((Int32 ⊕ String) × gw_S) := ((f_X8_needSet a0 σ).bind fun q2 => gw_bx q2 fun u1 => (f_X8_closure_L9 64 a0 (0 : Int32) (0 : Int32) u1))
set_option maxHeartbeats 4000000 in
set_option maxRecDepth 100000 in
theorem gc_X8_closure (l : Launch) (hfl : l.stackTraces = false) (G : gw_G) (a0 : Int32) (σ : gw_S) (o : ((Int32 ⊕ String) × gw_S)) (h : f_X8_closure a0 σ = some o) : gw_N (fun sz => gw_xI G sz o) (fun sz => gw_XC G sz o) 1 l yX8_closure cX8_closure 5 (some .int) { frames := 7, cells := 1, slots := 6, locals := 103 } G [.ref (G.2.1 0), .int a0] σ := by
  refine gw_enx (own := RX8) (lv := [(0, .ref (G.2.1 0)), (1, .int a0)]) (by decide +kernel) rfl (Nat.le_of_ble_eq_true rfl) rfl ?_
  intro p e s m below meth c ls X hl hP
  obtain ⟨hx, hb, hml, hown, hts, -, -, hT, hZ, -⟩ := id X
  have hS : va_S (gw_A G s.heap.size) s.heap s.heap [] := va_S.rf
  have L50 : ∀ (n : Nat) (v50_2 : Int32) (v50_3 : Int32) (v50_4 : Int32) (σ : gw_S) (H : Heap) (locs : List Loc) (ls : Array Slot), f_X8_closure_L50 n v50_2 v50_3 v50_4 σ = some o → gw_P G σ H → va_S (gw_A G s.heap.size) s.heap H locs → lv_has ls 5 [(0, .ref (G.2.1 0)), (2, .int v50_2), (3, .int v50_3), (4, .int v50_4)] → W p l e { frames := 7, cells := 1, slots := 6, locals := 103 } s m [.ref (G.2.1 0), .int a0].toArray below meth c H locs 1 (6 * 1) (vx_MQ below (gw_xI G s.heap.size o) (gw_XC G s.heap.size o) [.ref (G.2.1 0), .int a0].toArray s 1 (6 * 1) (gw_A G s.heap.size)) (F0 m 50 ls []) := by
    intro n
    induction n with
    | zero =>
      intro v50_2 v50_3 v50_4 σ H locs ls h
      exact absurd h (by rw [f_X8_closure_L50.eq_1]; exact fun h => nomatch h)
    | succ n ih =>
      intro v50_2 v50_3 v50_4 σ H locs ls h hP hS hl
      rw [f_X8_closure_L50.eq_2] at h
      refine lv_iload hx hb dX8_closure_50 (lv_at hl 3 rfl) ?_
      refine lv_aload_n hx hb dX8_closure_52 rfl (lv_at hl 0 rfl) ?_
      refine va_get (D := G.1) (ci := 10) (v := .ref (G.2.1 1)) (C := RX8) (T := TX8) (N := 7) hx hb hts gx_X8 hown hT.2.1 hP 0 rfl rfl 0 (by decide) (hts _ gv_214) (fun _ h9 => h9) rfl dX8_closure_53 ?_
      obtain ⟨p4, gp4, h⟩ := Option.bind_eq_some_iff.mp h
      refine gw_ci (gw_rV (C := RX3) X hP hS (gc_X3_size l G  σ _ gp4) gk_X3_size gv_258 ⟨gv_259, gv_260⟩ (va_recv hT.2.1 hP (ci := 6) (q0 := 1) rfl rfl) rfl rfl (Nat.le_of_ble_eq_true rfl) hl.1 ⟨rfl, rfl⟩ ⟨Nat.le_of_ble_eq_true rfl, Nat.le_of_ble_eq_true rfl⟩ ⟨Nat.le_of_ble_eq_true rfl, Nat.le_of_ble_eq_true rfl⟩ dX8_closure_56) hS (fun H locs hP hS => ?_)
      refine lv_icmp_ge (tgt := 91) hx hb dX8_closure_59 (by decide) (fun c => ?_) (fun c => ?_)
      · have h := (if_pos c).symm.trans h
        refine lv_iload_n hx hb dX8_closure_91 rfl (lv_at hl 2 rfl) ?_
        exact gw_xri X hP hS (Nat.le_of_ble_eq_true rfl) (Nat.le_of_ble_eq_true rfl) h dX8_closure_92
      · have h := (if_neg c).symm.trans h
        refine lv_aload_n hx hb dX8_closure_62 rfl (lv_at hl 0 rfl) ?_
        refine va_get (D := G.1) (ci := 10) (v := .ref (G.2.1 1)) (C := RX8) (T := TX8) (N := 7) hx hb hts gx_X8 hown hT.2.1 hP 0 rfl rfl 0 (by decide) (hts _ gv_214) (fun _ h9 => h9) rfl dX8_closure_63 ?_
        refine lv_iload hx hb dX8_closure_66 (lv_at hl 3 rfl) ?_
        obtain ⟨p5, gp5, h⟩ := Option.bind_eq_some_iff.mp h
        refine gw_ci (gw_rV (C := RX3) X hP hS (gc_X3_endsOf l G v50_4 p4.2 _ gp5) gk_X3_endsOf gv_486 ⟨gv_398, gv_399⟩ (va_recv hT.2.1 hP (ci := 6) (q0 := 1) rfl rfl) rfl rfl (Nat.le_of_ble_eq_true rfl) hl.1 ⟨rfl, rfl⟩ ⟨Nat.le_of_ble_eq_true rfl, Nat.le_of_ble_eq_true rfl⟩ ⟨Nat.le_of_ble_eq_true rfl, Nat.le_of_ble_eq_true rfl⟩ dX8_closure_68) hS (fun H locs hP hS => ?_)
        refine lv_iload_n hx hb dX8_closure_71 rfl (lv_at hl 1 rfl) ?_
        obtain ⟨p6, gp6, h⟩ := Option.bind_eq_some_iff.mp h
        refine gw_cz (gw_rS X hP hS (gc_X8_isPart l G p5.1 v50_2 p5.2 _ gp6) gk_X8_isPart gv_487 gv_392 rfl rfl (Nat.le_of_ble_eq_true rfl) hl.1 ⟨rfl, rfl⟩ ⟨Nat.le_of_ble_eq_true rfl, Nat.le_of_ble_eq_true rfl⟩ ⟨Nat.le_of_ble_eq_true rfl, Nat.le_of_ble_eq_true rfl⟩ dX8_closure_72) hS (fun H locs hb_p6 hP hS => ?_)
        refine lv_if_eq (tgt := 85) hx hb dX8_closure_75 (by decide) (fun c => ?_) (fun c => ?_)
        · have h := (if_pos c).symm.trans h
          refine lv_iinc (v := (v50_4 + (1 : Int32))) (lv' := [(4, .int (v50_4 + (1 : Int32))), (0, .ref (G.2.1 0)), (2, .int v50_2), (3, .int v50_3)]) hx hb dX8_closure_85 hl (k := 3) rfl rfl (by decide) rfl (fun ls hl => ?_)
          refine lv_goto (tgt := 50) hx hb dX8_closure_88 (by decide) ?_
          exact ih v50_2 v50_3 (v50_4 + (1 : Int32)) p6.2 _ _ _ h hP hS (lv_sub hl [1, 2, 3, 0] rfl)
        · have h := (if_neg c).symm.trans h
          refine lv_iload_n hx hb dX8_closure_78 rfl (lv_at hl 2 rfl) ?_
          refine lv_iconst (v := 1) hx hb dX8_closure_79 (by decide) ?_
          refine lv_iload hx hb dX8_closure_80 (lv_at hl 3 rfl) ?_
          refine lv_ishl hx hb dX8_closure_82 ?_
          refine lv_ior hx hb dX8_closure_83 ?_
          refine lv_istore_n (lv' := [(3, .int (v50_3 ||| ((1 : Int32) <<< (v50_4 &&& 31)))), (0, .ref (G.2.1 0)), (2, .int v50_2), (4, .int v50_4)]) hx hb dX8_closure_84 rfl hl (by decide) rfl (fun ls hl => ?_)
          refine lv_iinc (v := (v50_4 + (1 : Int32))) (lv' := [(4, .int (v50_4 + (1 : Int32))), (3, .int (v50_3 ||| ((1 : Int32) <<< (v50_4 &&& 31)))), (0, .ref (G.2.1 0)), (2, .int v50_2)]) hx hb dX8_closure_85 hl (k := 3) rfl rfl (by decide) rfl (fun ls hl => ?_)
          refine lv_goto (tgt := 50) hx hb dX8_closure_88 (by decide) ?_
          exact ih v50_2 (v50_3 ||| ((1 : Int32) <<< (v50_4 &&& 31))) (v50_4 + (1 : Int32)) p6.2 _ _ _ h hP hS (lv_sub hl [2, 3, 1, 0] rfl)
  have L9 : ∀ (n : Nat) (v9_1 : Int32) (v9_2 : Int32) (v9_3 : Int32) (σ : gw_S) (H : Heap) (locs : List Loc) (ls : Array Slot), f_X8_closure_L9 n v9_1 v9_2 v9_3 σ = some o → gw_P G σ H → va_S (gw_A G s.heap.size) s.heap H locs → lv_has ls 5 [(0, .ref (G.2.1 0)), (1, .int v9_1), (2, .int v9_2), (3, .int v9_3)] → W p l e { frames := 7, cells := 1, slots := 6, locals := 103 } s m [.ref (G.2.1 0), .int a0].toArray below meth c H locs 1 (6 * 1) (vx_MQ below (gw_xI G s.heap.size o) (gw_XC G s.heap.size o) [.ref (G.2.1 0), .int a0].toArray s 1 (6 * 1) (gw_A G s.heap.size)) (F0 m 9 ls []) := by
    intro n
    induction n with
    | zero =>
      intro v9_1 v9_2 v9_3 σ H locs ls h
      exact absurd h (by rw [f_X8_closure_L9.eq_1]; exact fun h => nomatch h)
    | succ n ih =>
      intro v9_1 v9_2 v9_3 σ H locs ls h hP hS hl
      rw [f_X8_closure_L9.eq_2] at h
      refine lv_iload_n hx hb dX8_closure_9 rfl (lv_at hl 3 rfl) ?_
      refine lv_aload_n hx hb dX8_closure_10 rfl (lv_at hl 0 rfl) ?_
      refine va_get (D := G.1) (ci := 10) (v := .ref (G.2.1 1)) (C := RX8) (T := TX8) (N := 7) hx hb hts gx_X8 hown hT.2.1 hP 0 rfl rfl 0 (by decide) (hts _ gv_214) (fun _ h9 => h9) rfl dX8_closure_11 ?_
      obtain ⟨p3, gp3, h⟩ := Option.bind_eq_some_iff.mp h
      refine gw_ci (gw_rV (C := RX3) X hP hS (gc_X3_size l G  σ _ gp3) gk_X3_size gv_258 ⟨gv_259, gv_260⟩ (va_recv hT.2.1 hP (ci := 6) (q0 := 1) rfl rfl) rfl rfl (Nat.le_of_ble_eq_true rfl) hl.1 ⟨rfl, rfl⟩ ⟨Nat.le_of_ble_eq_true rfl, Nat.le_of_ble_eq_true rfl⟩ ⟨Nat.le_of_ble_eq_true rfl, Nat.le_of_ble_eq_true rfl⟩ dX8_closure_14) hS (fun H locs hP hS => ?_)
      refine lv_icmp_ge (tgt := 45) hx hb dX8_closure_17 (by decide) (fun c => ?_) (fun c => ?_)
      · have h := (if_pos c).symm.trans h
        refine lv_iconst (v := 0) hx hb dX8_closure_45 (by decide) ?_
        refine lv_istore_n (lv' := [(3, .int (0 : Int32)), (0, .ref (G.2.1 0)), (1, .int v9_1), (2, .int v9_2)]) hx hb dX8_closure_46 rfl hl (by decide) rfl (fun ls hl => ?_)
        refine lv_iconst (v := 0) hx hb dX8_closure_47 (by decide) ?_
        refine lv_istore (lv' := [(4, .int (0 : Int32)), (3, .int (0 : Int32)), (0, .ref (G.2.1 0)), (1, .int v9_1), (2, .int v9_2)]) hx hb dX8_closure_48 hl (by decide) rfl (fun ls hl => ?_)
        exact L50 64 v9_2 (0 : Int32) (0 : Int32) p3.2 _ _ _ h hP hS (lv_sub hl [2, 4, 1, 0] rfl)
      · have h := (if_neg c).symm.trans h
        refine lv_iload_n hx hb dX8_closure_20 rfl (lv_at hl 1 rfl) ?_
        refine lv_iload_n hx hb dX8_closure_21 rfl (lv_at hl 3 rfl) ?_
        obtain ⟨p7, gp7, h⟩ := Option.bind_eq_some_iff.mp h
        refine gw_cz (gw_rS X hP hS (gc_X8_contains l G v9_1 v9_3 p3.2 _ gp7) gk_X8_contains gv_485 gv_278 rfl rfl (Nat.le_of_ble_eq_true rfl) hl.1 ⟨rfl, rfl⟩ ⟨Nat.le_of_ble_eq_true rfl, Nat.le_of_ble_eq_true rfl⟩ ⟨Nat.le_of_ble_eq_true rfl, Nat.le_of_ble_eq_true rfl⟩ dX8_closure_22) hS (fun H locs hb_p7 hP hS => ?_)
        refine lv_if_eq (tgt := 39) hx hb dX8_closure_25 (by decide) (fun c => ?_) (fun c => ?_)
        · have h := (if_pos c).symm.trans h
          refine lv_iinc (v := (v9_3 + (1 : Int32))) (lv' := [(3, .int (v9_3 + (1 : Int32))), (0, .ref (G.2.1 0)), (1, .int v9_1), (2, .int v9_2)]) hx hb dX8_closure_39 hl (k := 3) rfl rfl (by decide) rfl (fun ls hl => ?_)
          refine lv_goto (tgt := 9) hx hb dX8_closure_42 (by decide) ?_
          exact ih v9_1 v9_2 (v9_3 + (1 : Int32)) p7.2 _ _ _ h hP hS (lv_sub hl [1, 2, 3, 0] rfl)
        · have h := (if_neg c).symm.trans h
          refine lv_iload_n hx hb dX8_closure_28 rfl (lv_at hl 2 rfl) ?_
          refine lv_aload_n hx hb dX8_closure_29 rfl (lv_at hl 0 rfl) ?_
          refine va_get (D := G.1) (ci := 10) (v := .ref (G.2.1 1)) (C := RX8) (T := TX8) (N := 7) hx hb hts gx_X8 hown hT.2.1 hP 0 rfl rfl 0 (by decide) (hts _ gv_214) (fun _ h9 => h9) rfl dX8_closure_30 ?_
          refine lv_iload_n hx hb dX8_closure_33 rfl (lv_at hl 3 rfl) ?_
          obtain ⟨p8, gp8, h⟩ := Option.bind_eq_some_iff.mp h
          refine gw_ci (gw_rV (C := RX3) X hP hS (gc_X3_endsOf l G v9_3 p7.2 _ gp8) gk_X3_endsOf gv_486 ⟨gv_398, gv_399⟩ (va_recv hT.2.1 hP (ci := 6) (q0 := 1) rfl rfl) rfl rfl (Nat.le_of_ble_eq_true rfl) hl.1 ⟨rfl, rfl⟩ ⟨Nat.le_of_ble_eq_true rfl, Nat.le_of_ble_eq_true rfl⟩ ⟨Nat.le_of_ble_eq_true rfl, Nat.le_of_ble_eq_true rfl⟩ dX8_closure_34) hS (fun H locs hP hS => ?_)
          refine lv_ior hx hb dX8_closure_37 ?_
          refine lv_istore_n (lv' := [(2, .int (v9_2 ||| p8.1)), (0, .ref (G.2.1 0)), (1, .int v9_1), (3, .int v9_3)]) hx hb dX8_closure_38 rfl hl (by decide) rfl (fun ls hl => ?_)
          refine lv_iinc (v := (v9_3 + (1 : Int32))) (lv' := [(3, .int (v9_3 + (1 : Int32))), (2, .int (v9_2 ||| p8.1)), (0, .ref (G.2.1 0)), (1, .int v9_1)]) hx hb dX8_closure_39 hl (k := 3) rfl rfl (by decide) rfl (fun ls hl => ?_)
          refine lv_goto (tgt := 9) hx hb dX8_closure_42 (by decide) ?_
          exact ih v9_1 (v9_2 ||| p8.1) (v9_3 + (1 : Int32)) p8.2 _ _ _ h hP hS (lv_sub hl [2, 3, 1, 0] rfl)
  unfold f_X8_closure at h
  refine lv_aload_n hx hb dX8_closure_0 rfl (lv_at hl 0 rfl) ?_
  refine lv_iload_n hx hb dX8_closure_1 rfl (lv_at hl 1 rfl) ?_
  obtain ⟨q2, gq2, h⟩ := Option.bind_eq_some_iff.mp h
  refine gw_cx X h (gw_xV_ (C := RX8) X hP hS (gc_X8_needSet l hfl G a0 σ _ gq2) gk_X8_needSet gv_717 ⟨gv_719, gv_s9⟩ (va_recv hT.2.1 hP (ci := 10) (q0 := 0) rfl rfl) rfl rfl (Nat.le_of_ble_eq_true rfl) hl.1 ⟨rfl, rfl⟩ ⟨Nat.le_of_ble_eq_true rfl, Nat.le_of_ble_eq_true rfl⟩ ⟨Nat.le_of_ble_eq_true rfl, Nat.le_of_ble_eq_true rfl⟩ dX8_closure_2) hS (Nat.le_of_ble_eq_true rfl) (Nat.le_of_ble_eq_true rfl) (fun u1 H locs h hP hS => ?_)
  refine lv_iconst (v := 0) hx hb dX8_closure_5 (by decide) ?_
  refine lv_istore_n (lv' := [(2, .int (0 : Int32)), (0, .ref (G.2.1 0)), (1, .int a0)]) hx hb dX8_closure_6 rfl hl (by decide) rfl (fun ls hl => ?_)
  refine lv_iconst (v := 0) hx hb dX8_closure_7 (by decide) ?_
  refine lv_istore_n (lv' := [(3, .int (0 : Int32)), (2, .int (0 : Int32)), (0, .ref (G.2.1 0)), (1, .int a0)]) hx hb dX8_closure_8 rfl hl (by decide) rfl (fun ls hl => ?_)
  exact L9 64 a0 (0 : Int32) (0 : Int32) u1 _ _ _ h hP hS (lv_sub hl [2, 3, 1, 0] rfl)
def f_X8_filterOf (a0 : Int32) (σ : gw_S) : Option ((Int32 ⊕ String) × gw_S) := ((f_X8_needWorld a0 σ).bind fun q2 => gw_bx q2 fun u1 => ((f_X3_up a0 u1).bind fun p3 => (some (Sum.inl p3.1, p3.2))))
set_option maxHeartbeats 4000000 in
set_option maxRecDepth 100000 in
theorem gc_X8_filterOf (l : Launch) (hfl : l.stackTraces = false) (G : gw_G) (a0 : Int32) (σ : gw_S) (o : ((Int32 ⊕ String) × gw_S)) (h : f_X8_filterOf a0 σ = some o) : gw_N (fun sz => gw_xI G sz o) (fun sz => gw_XC G sz o) 1 l yX8_filterOf cX8_filterOf 2 (some .int) { frames := 7, cells := 1, slots := 6, locals := 103 } G [.ref (G.2.1 0), .int a0] σ := by
  refine gw_enx (own := RX8) (lv := [(0, .ref (G.2.1 0)), (1, .int a0)]) (by decide +kernel) rfl (Nat.le_of_ble_eq_true rfl) rfl ?_
  intro p e s m below meth c ls X hl hP
  obtain ⟨hx, hb, hml, hown, hts, -, -, hT, hZ, -⟩ := id X
  have hS : va_S (gw_A G s.heap.size) s.heap s.heap [] := va_S.rf
  unfold f_X8_filterOf at h
  refine lv_aload_n hx hb dX8_filterOf_0 rfl (lv_at hl 0 rfl) ?_
  refine lv_iload_n hx hb dX8_filterOf_1 rfl (lv_at hl 1 rfl) ?_
  obtain ⟨q2, gq2, h⟩ := Option.bind_eq_some_iff.mp h
  refine gw_cx X h (gw_xV_ (C := RX8) X hP hS (gc_X8_needWorld l hfl G a0 σ _ gq2) gk_X8_needWorld gv_781 ⟨gv_783, gv_s11⟩ (va_recv hT.2.1 hP (ci := 10) (q0 := 0) rfl rfl) rfl rfl (Nat.le_of_ble_eq_true rfl) hl.1 ⟨rfl, rfl⟩ ⟨Nat.le_of_ble_eq_true rfl, Nat.le_of_ble_eq_true rfl⟩ ⟨Nat.le_of_ble_eq_true rfl, Nat.le_of_ble_eq_true rfl⟩ dX8_filterOf_2) hS (Nat.le_of_ble_eq_true rfl) (Nat.le_of_ble_eq_true rfl) (fun u1 H locs h hP hS => ?_)
  refine lv_aload_n hx hb dX8_filterOf_5 rfl (lv_at hl 0 rfl) ?_
  refine va_get (D := G.1) (ci := 10) (v := .ref (G.2.1 1)) (C := RX8) (T := TX8) (N := 7) hx hb hts gx_X8 hown hT.2.1 hP 0 rfl rfl 0 (by decide) (hts _ gv_214) (fun _ h9 => h9) rfl dX8_filterOf_6 ?_
  refine lv_iload_n hx hb dX8_filterOf_9 rfl (lv_at hl 1 rfl) ?_
  obtain ⟨p3, gp3, h⟩ := Option.bind_eq_some_iff.mp h
  refine gw_ci (gw_rV (C := RX3) X hP hS (gc_X3_up l G a0 u1 _ gp3) gk_X3_up gv_752 ⟨gv_753, gv_754⟩ (va_recv hT.2.1 hP (ci := 6) (q0 := 1) rfl rfl) rfl rfl (Nat.le_of_ble_eq_true rfl) hl.1 ⟨rfl, rfl⟩ ⟨Nat.le_of_ble_eq_true rfl, Nat.le_of_ble_eq_true rfl⟩ ⟨Nat.le_of_ble_eq_true rfl, Nat.le_of_ble_eq_true rfl⟩ dX8_filterOf_10) hS (fun H locs hP hS => ?_)
  exact gw_xri X hP hS (Nat.le_of_ble_eq_true rfl) (Nat.le_of_ble_eq_true rfl) h dX8_filterOf_13
def f_X8_name (σ : gw_S) : Option ((Int32 ⊕ String) × gw_S) := ((f_X8_needRoomForNames (1 : Int32) σ).bind fun q2 => gw_bx q2 fun u1 => ((f_X2_add  u1).bind fun p3 => (some (Sum.inl p3.1, p3.2))))
set_option maxHeartbeats 4000000 in
set_option maxRecDepth 100000 in
theorem gc_X8_name (l : Launch) (hfl : l.stackTraces = false) (G : gw_G) (σ : gw_S) (o : ((Int32 ⊕ String) × gw_S)) (h : f_X8_name σ = some o) : gw_N (fun sz => gw_xI G sz o) (fun sz => gw_XC G sz o) 1 l yX8_name cX8_name 1 (some .int) { frames := 7, cells := 1, slots := 6, locals := 110 } G [.ref (G.2.1 0)] σ := by
  refine gw_enx (own := RX8) (lv := [(0, .ref (G.2.1 0))]) (by decide +kernel) rfl (Nat.le_of_ble_eq_true rfl) rfl ?_
  intro p e s m below meth c ls X hl hP
  obtain ⟨hx, hb, hml, hown, hts, -, -, hT, hZ, -⟩ := id X
  have hS : va_S (gw_A G s.heap.size) s.heap s.heap [] := va_S.rf
  unfold f_X8_name at h
  refine lv_aload_n hx hb dX8_name_0 rfl (lv_at hl 0 rfl) ?_
  refine lv_iconst (v := 1) hx hb dX8_name_1 (by decide) ?_
  obtain ⟨q2, gq2, h⟩ := Option.bind_eq_some_iff.mp h
  refine gw_cx X h (gw_xV_ (C := RX8) X hP hS (gc_X8_needRoomForNames l hfl G (1 : Int32) σ _ gq2) gk_X8_needRoomForNames gv_793 ⟨gv_795, gv_s12⟩ (va_recv hT.2.1 hP (ci := 10) (q0 := 0) rfl rfl) rfl rfl (Nat.le_of_ble_eq_true rfl) hl.1 ⟨rfl, rfl⟩ ⟨Nat.le_of_ble_eq_true rfl, Nat.le_of_ble_eq_true rfl⟩ ⟨Nat.le_of_ble_eq_true rfl, Nat.le_of_ble_eq_true rfl⟩ dX8_name_2) hS (Nat.le_of_ble_eq_true rfl) (Nat.le_of_ble_eq_true rfl) (fun u1 H locs h hP hS => ?_)
  refine lv_aload_n hx hb dX8_name_5 rfl (lv_at hl 0 rfl) ?_
  refine va_get (D := G.1) (ci := 10) (v := .ref (G.2.1 4)) (C := RX8) (T := TX8) (N := 7) hx hb hts gx_X8 hown hT.2.1 hP 0 rfl rfl 1 (by decide) (hts _ gv_215) (fun _ h9 => h9) rfl dX8_name_6 ?_
  obtain ⟨p3, gp3, h⟩ := Option.bind_eq_some_iff.mp h
  refine gw_ci (gw_rV (C := RX2) X hP hS (gc_X2_add l G  u1 _ gp3) gk_X2_add gv_798 ⟨gv_799, gv_800⟩ (va_recv hT.2.1 hP (ci := 5) (q0 := 4) rfl rfl) rfl rfl (Nat.le_of_ble_eq_true rfl) hl.1 ⟨rfl, rfl⟩ ⟨Nat.le_of_ble_eq_true rfl, Nat.le_of_ble_eq_true rfl⟩ ⟨Nat.le_of_ble_eq_true rfl, Nat.le_of_ble_eq_true rfl⟩ dX8_name_9) hS (fun H locs hP hS => ?_)
  exact gw_xri X hP hS (Nat.le_of_ble_eq_true rfl) (Nat.le_of_ble_eq_true rfl) h dX8_name_12
def f_X8_pair (a0 : Int32) (a1 : Int32) (a2 : Int32) (σ : gw_S) : Option ((Int32 ⊕ String) × gw_S) := ((f_X8_needName a0 σ).bind fun q2 => gw_bx q2 fun u1 => ((f_X8_needName a1 u1).bind fun q4 => gw_bx q4 fun u3 => ((f_X8_needCondition a2 u3).bind fun q6 => gw_bx q6 fun u5 => (if a1 < a0 then ((f_X2_isStandard a0 u5).bind fun p7 => (if p7.1 = 0 then ((f_X2_hasPair a0 a1 a2 p7.2).bind fun p8 => (if p8.1 = 0 then ((f_X2_wouldRiseTooHigh a0 a1 p8.2).bind fun p9 => (if p9.1 = 0 then ((f_X2_pairsOf a0 p9.2).bind fun p10 => (if p10.1 < (4 : Int32) then ((f_X2_addPair a0 a1 a2 p10.2).bind fun p11 => ((f_X2_pairsOf a0 p11).bind fun p12 => (some (Sum.inl p12.1, p12.2)))) else (some (Sum.inr "java/lang/IllegalStateException", p10.2)))) else (some (Sum.inr "java/lang/UnsupportedOperationException", p9.2)))) else (some (Sum.inr "java/lang/UnsupportedOperationException", p8.2)))) else (some (Sum.inr "java/lang/UnsupportedOperationException", p7.2)))) else (some (Sum.inr "java/lang/IllegalArgumentException", u5))))))
set_option maxHeartbeats 4000000 in
set_option maxRecDepth 100000 in
theorem gc_X8_pair (l : Launch) (hfl : l.stackTraces = false) (G : gw_G) (a0 : Int32) (a1 : Int32) (a2 : Int32) (σ : gw_S) (o : ((Int32 ⊕ String) × gw_S)) (h : f_X8_pair a0 a1 a2 σ = some o) : gw_N (fun sz => gw_xI G sz o) (fun sz => gw_XC G sz o) 4 l yX8_pair cX8_pair 4 (some .int) { frames := 7, cells := 4, slots := 24, locals := 113 } G [.ref (G.2.1 0), .int a0, .int a1, .int a2] σ := by
  refine gw_enx (own := RX8) (lv := [(0, .ref (G.2.1 0)), (1, .int a0), (2, .int a1), (3, .int a2)]) (by decide +kernel) rfl (Nat.le_of_ble_eq_true rfl) rfl ?_
  intro p e s m below meth c ls X hl hP
  obtain ⟨hx, hb, hml, hown, hts, -, -, hT, hZ, -⟩ := id X
  have hS : va_S (gw_A G s.heap.size) s.heap s.heap [] := va_S.rf
  unfold f_X8_pair at h
  refine lv_aload_n hx hb dX8_pair_0 rfl (lv_at hl 0 rfl) ?_
  refine lv_iload_n hx hb dX8_pair_1 rfl (lv_at hl 1 rfl) ?_
  obtain ⟨q2, gq2, h⟩ := Option.bind_eq_some_iff.mp h
  refine gw_cx X h (gw_xV_ (C := RX8) X hP hS (gc_X8_needName l hfl G a0 σ _ gq2) gk_X8_needName gv_821 ⟨gv_823, gv_s15⟩ (va_recv hT.2.1 hP (ci := 10) (q0 := 0) rfl rfl) rfl rfl (Nat.le_of_ble_eq_true rfl) hl.1 ⟨rfl, rfl⟩ ⟨Nat.le_of_ble_eq_true rfl, Nat.le_of_ble_eq_true rfl⟩ ⟨Nat.le_of_ble_eq_true rfl, Nat.le_of_ble_eq_true rfl⟩ dX8_pair_2) hS (Nat.le_of_ble_eq_true rfl) (Nat.le_of_ble_eq_true rfl) (fun u1 H locs h hP hS => ?_)
  refine lv_aload_n hx hb dX8_pair_5 rfl (lv_at hl 0 rfl) ?_
  refine lv_iload_n hx hb dX8_pair_6 rfl (lv_at hl 2 rfl) ?_
  obtain ⟨q4, gq4, h⟩ := Option.bind_eq_some_iff.mp h
  refine gw_cx X h (gw_xV_ (C := RX8) X hP hS (gc_X8_needName l hfl G a1 u1 _ gq4) gk_X8_needName gv_821 ⟨gv_823, gv_s15⟩ (va_recv hT.2.1 hP (ci := 10) (q0 := 0) rfl rfl) rfl rfl (Nat.le_of_ble_eq_true rfl) hl.1 ⟨rfl, rfl⟩ ⟨Nat.le_of_ble_eq_true rfl, Nat.le_of_ble_eq_true rfl⟩ ⟨Nat.le_of_ble_eq_true rfl, Nat.le_of_ble_eq_true rfl⟩ dX8_pair_7) hS (Nat.le_of_ble_eq_true rfl) (Nat.le_of_ble_eq_true rfl) (fun u3 H locs h hP hS => ?_)
  refine lv_aload_n hx hb dX8_pair_10 rfl (lv_at hl 0 rfl) ?_
  refine lv_iload_n hx hb dX8_pair_11 rfl (lv_at hl 3 rfl) ?_
  obtain ⟨q6, gq6, h⟩ := Option.bind_eq_some_iff.mp h
  refine gw_cx X h (gw_xV_ (C := RX8) X hP hS (gc_X8_needCondition l hfl G a2 u3 _ gq6) gk_X8_needCondition gv_645 ⟨gv_647, gv_s8⟩ (va_recv hT.2.1 hP (ci := 10) (q0 := 0) rfl rfl) rfl rfl (Nat.le_of_ble_eq_true rfl) hl.1 ⟨rfl, rfl⟩ ⟨Nat.le_of_ble_eq_true rfl, Nat.le_of_ble_eq_true rfl⟩ ⟨Nat.le_of_ble_eq_true rfl, Nat.le_of_ble_eq_true rfl⟩ dX8_pair_12) hS (Nat.le_of_ble_eq_true rfl) (Nat.le_of_ble_eq_true rfl) (fun u5 H locs h hP hS => ?_)
  refine lv_iload_n hx hb dX8_pair_15 rfl (lv_at hl 2 rfl) ?_
  refine lv_iload_n hx hb dX8_pair_16 rfl (lv_at hl 1 rfl) ?_
  refine lv_icmp_lt (tgt := 30) hx hb dX8_pair_17 (by decide) (fun c => ?_) (fun c => ?_)
  · have h := (if_pos c).symm.trans h
    refine lv_aload_n hx hb dX8_pair_30 rfl (lv_at hl 0 rfl) ?_
    refine va_get (D := G.1) (ci := 10) (v := .ref (G.2.1 4)) (C := RX8) (T := TX8) (N := 7) hx hb hts gx_X8 hown hT.2.1 hP 0 rfl rfl 1 (by decide) (hts _ gv_215) (fun _ h9 => h9) rfl dX8_pair_31 ?_
    refine lv_iload_n hx hb dX8_pair_34 rfl (lv_at hl 1 rfl) ?_
    obtain ⟨p7, gp7, h⟩ := Option.bind_eq_some_iff.mp h
    refine gw_cz (gw_rV (C := RX2) X hP hS (gc_X2_isStandard l G a0 u5 _ gp7) gk_X2_isStandard gv_831 ⟨gv_832, gv_833⟩ (va_recv hT.2.1 hP (ci := 5) (q0 := 4) rfl rfl) rfl rfl (Nat.le_of_ble_eq_true rfl) hl.1 ⟨rfl, rfl⟩ ⟨Nat.le_of_ble_eq_true rfl, Nat.le_of_ble_eq_true rfl⟩ ⟨Nat.le_of_ble_eq_true rfl, Nat.le_of_ble_eq_true rfl⟩ dX8_pair_35) hS (fun H locs hb_p7 hP hS => ?_)
    refine lv_if_ne (tgt := 66) hx hb dX8_pair_38 (by decide) (fun c => ?_) (fun c => ?_)
    · have h := (if_neg c).symm.trans h
      exact gw_thr X hP hS hfl ge_X8_82_86 (i := 8) rfl h hl.1 dX8_pair_66 dX8_pair_69 dX8_pair_70 dX8_pair_72 dX8_pair_75 ⟨Nat.le_of_ble_eq_true rfl, Nat.le_of_ble_eq_true rfl⟩ ⟨Nat.le_of_ble_eq_true rfl, Nat.le_of_ble_eq_true rfl⟩ (Nat.le_of_ble_eq_true rfl) (Nat.le_of_ble_eq_true rfl)
    · have h := (if_pos c).symm.trans h
      refine lv_aload_n hx hb dX8_pair_41 rfl (lv_at hl 0 rfl) ?_
      refine va_get (D := G.1) (ci := 10) (v := .ref (G.2.1 4)) (C := RX8) (T := TX8) (N := 7) hx hb hts gx_X8 hown hT.2.1 hP 0 rfl rfl 1 (by decide) (hts _ gv_215) (fun _ h9 => h9) rfl dX8_pair_42 ?_
      refine lv_iload_n hx hb dX8_pair_45 rfl (lv_at hl 1 rfl) ?_
      refine lv_iload_n hx hb dX8_pair_46 rfl (lv_at hl 2 rfl) ?_
      refine lv_iload_n hx hb dX8_pair_47 rfl (lv_at hl 3 rfl) ?_
      obtain ⟨p8, gp8, h⟩ := Option.bind_eq_some_iff.mp h
      refine gw_cz (gw_rV (C := RX2) X hP hS (gc_X2_hasPair l G a0 a1 a2 p7.2 _ gp8) gk_X2_hasPair gv_839 ⟨gv_840, gv_841⟩ (va_recv hT.2.1 hP (ci := 5) (q0 := 4) rfl rfl) rfl rfl (Nat.le_of_ble_eq_true rfl) hl.1 ⟨rfl, rfl⟩ ⟨Nat.le_of_ble_eq_true rfl, Nat.le_of_ble_eq_true rfl⟩ ⟨Nat.le_of_ble_eq_true rfl, Nat.le_of_ble_eq_true rfl⟩ dX8_pair_48) hS (fun H locs hb_p8 hP hS => ?_)
      refine lv_if_ne (tgt := 66) hx hb dX8_pair_51 (by decide) (fun c => ?_) (fun c => ?_)
      · have h := (if_neg c).symm.trans h
        exact gw_thr X hP hS hfl ge_X8_82_86 (i := 8) rfl h hl.1 dX8_pair_66 dX8_pair_69 dX8_pair_70 dX8_pair_72 dX8_pair_75 ⟨Nat.le_of_ble_eq_true rfl, Nat.le_of_ble_eq_true rfl⟩ ⟨Nat.le_of_ble_eq_true rfl, Nat.le_of_ble_eq_true rfl⟩ (Nat.le_of_ble_eq_true rfl) (Nat.le_of_ble_eq_true rfl)
      · have h := (if_pos c).symm.trans h
        refine lv_aload_n hx hb dX8_pair_54 rfl (lv_at hl 0 rfl) ?_
        refine va_get (D := G.1) (ci := 10) (v := .ref (G.2.1 4)) (C := RX8) (T := TX8) (N := 7) hx hb hts gx_X8 hown hT.2.1 hP 0 rfl rfl 1 (by decide) (hts _ gv_215) (fun _ h9 => h9) rfl dX8_pair_55 ?_
        refine lv_iload_n hx hb dX8_pair_58 rfl (lv_at hl 1 rfl) ?_
        refine lv_iload_n hx hb dX8_pair_59 rfl (lv_at hl 2 rfl) ?_
        obtain ⟨p9, gp9, h⟩ := Option.bind_eq_some_iff.mp h
        refine gw_cz (gw_rV (C := RX2) X hP hS (gc_X2_wouldRiseTooHigh l G a0 a1 p8.2 _ gp9) gk_X2_wouldRiseTooHigh gv_844 ⟨gv_845, gv_846⟩ (va_recv hT.2.1 hP (ci := 5) (q0 := 4) rfl rfl) rfl rfl (Nat.le_of_ble_eq_true rfl) hl.1 ⟨rfl, rfl⟩ ⟨Nat.le_of_ble_eq_true rfl, Nat.le_of_ble_eq_true rfl⟩ ⟨Nat.le_of_ble_eq_true rfl, Nat.le_of_ble_eq_true rfl⟩ dX8_pair_60) hS (fun H locs hb_p9 hP hS => ?_)
        refine lv_if_eq (tgt := 76) hx hb dX8_pair_63 (by decide) (fun c => ?_) (fun c => ?_)
        · have h := (if_pos c).symm.trans h
          refine lv_aload_n hx hb dX8_pair_76 rfl (lv_at hl 0 rfl) ?_
          refine va_get (D := G.1) (ci := 10) (v := .ref (G.2.1 4)) (C := RX8) (T := TX8) (N := 7) hx hb hts gx_X8 hown hT.2.1 hP 0 rfl rfl 1 (by decide) (hts _ gv_215) (fun _ h9 => h9) rfl dX8_pair_77 ?_
          refine lv_iload_n hx hb dX8_pair_80 rfl (lv_at hl 1 rfl) ?_
          obtain ⟨p10, gp10, h⟩ := Option.bind_eq_some_iff.mp h
          refine gw_ci (gw_rV (C := RX2) X hP hS (gc_X2_pairsOf l G a0 p9.2 _ gp10) gk_X2_pairsOf gv_312 ⟨gv_313, gv_314⟩ (va_recv hT.2.1 hP (ci := 5) (q0 := 4) rfl rfl) rfl rfl (Nat.le_of_ble_eq_true rfl) hl.1 ⟨rfl, rfl⟩ ⟨Nat.le_of_ble_eq_true rfl, Nat.le_of_ble_eq_true rfl⟩ ⟨Nat.le_of_ble_eq_true rfl, Nat.le_of_ble_eq_true rfl⟩ dX8_pair_81) hS (fun H locs hP hS => ?_)
          refine lv_iconst (v := 4) hx hb dX8_pair_84 (by decide) ?_
          refine lv_icmp_lt (tgt := 98) hx hb dX8_pair_85 (by decide) (fun c => ?_) (fun c => ?_)
          · have h := (if_pos c).symm.trans h
            refine lv_aload_n hx hb dX8_pair_98 rfl (lv_at hl 0 rfl) ?_
            refine va_get (D := G.1) (ci := 10) (v := .ref (G.2.1 4)) (C := RX8) (T := TX8) (N := 7) hx hb hts gx_X8 hown hT.2.1 hP 0 rfl rfl 1 (by decide) (hts _ gv_215) (fun _ h9 => h9) rfl dX8_pair_99 ?_
            refine lv_iload_n hx hb dX8_pair_102 rfl (lv_at hl 1 rfl) ?_
            refine lv_iload_n hx hb dX8_pair_103 rfl (lv_at hl 2 rfl) ?_
            refine lv_iload_n hx hb dX8_pair_104 rfl (lv_at hl 3 rfl) ?_
            obtain ⟨p11, gp11, h⟩ := Option.bind_eq_some_iff.mp h
            refine gw_cv (gw_rV (C := RX2) X hP hS (gc_X2_addPair l G a0 a1 a2 p10.2 _ gp11) gk_X2_addPair gv_850 ⟨gv_851, gv_852⟩ (va_recv hT.2.1 hP (ci := 5) (q0 := 4) rfl rfl) rfl rfl (Nat.le_of_ble_eq_true rfl) hl.1 ⟨rfl, rfl⟩ ⟨Nat.le_of_ble_eq_true rfl, Nat.le_of_ble_eq_true rfl⟩ ⟨Nat.le_of_ble_eq_true rfl, Nat.le_of_ble_eq_true rfl⟩ dX8_pair_105) hS (fun H locs hP hS => ?_)
            refine lv_aload_n hx hb dX8_pair_108 rfl (lv_at hl 0 rfl) ?_
            refine va_get (D := G.1) (ci := 10) (v := .ref (G.2.1 4)) (C := RX8) (T := TX8) (N := 7) hx hb hts gx_X8 hown hT.2.1 hP 0 rfl rfl 1 (by decide) (hts _ gv_215) (fun _ h9 => h9) rfl dX8_pair_109 ?_
            refine lv_iload_n hx hb dX8_pair_112 rfl (lv_at hl 1 rfl) ?_
            obtain ⟨p12, gp12, h⟩ := Option.bind_eq_some_iff.mp h
            refine gw_ci (gw_rV (C := RX2) X hP hS (gc_X2_pairsOf l G a0 p11 _ gp12) gk_X2_pairsOf gv_312 ⟨gv_313, gv_314⟩ (va_recv hT.2.1 hP (ci := 5) (q0 := 4) rfl rfl) rfl rfl (Nat.le_of_ble_eq_true rfl) hl.1 ⟨rfl, rfl⟩ ⟨Nat.le_of_ble_eq_true rfl, Nat.le_of_ble_eq_true rfl⟩ ⟨Nat.le_of_ble_eq_true rfl, Nat.le_of_ble_eq_true rfl⟩ dX8_pair_113) hS (fun H locs hP hS => ?_)
            exact gw_xri X hP hS (Nat.le_of_ble_eq_true rfl) (Nat.le_of_ble_eq_true rfl) h dX8_pair_116
          · have h := (if_neg c).symm.trans h
            exact gw_thr X hP hS hfl ge_X8_64_68 (i := 9) rfl h hl.1 dX8_pair_88 dX8_pair_91 dX8_pair_92 dX8_pair_94 dX8_pair_97 ⟨Nat.le_of_ble_eq_true rfl, Nat.le_of_ble_eq_true rfl⟩ ⟨Nat.le_of_ble_eq_true rfl, Nat.le_of_ble_eq_true rfl⟩ (Nat.le_of_ble_eq_true rfl) (Nat.le_of_ble_eq_true rfl)
        · have h := (if_neg c).symm.trans h
          exact gw_thr X hP hS hfl ge_X8_82_86 (i := 8) rfl h hl.1 dX8_pair_66 dX8_pair_69 dX8_pair_70 dX8_pair_72 dX8_pair_75 ⟨Nat.le_of_ble_eq_true rfl, Nat.le_of_ble_eq_true rfl⟩ ⟨Nat.le_of_ble_eq_true rfl, Nat.le_of_ble_eq_true rfl⟩ (Nat.le_of_ble_eq_true rfl) (Nat.le_of_ble_eq_true rfl)
  · have h := (if_neg c).symm.trans h
    exact gw_thr X hP hS hfl ge_X8_143_147 (i := 7) rfl h hl.1 dX8_pair_20 dX8_pair_23 dX8_pair_24 dX8_pair_26 dX8_pair_29 ⟨Nat.le_of_ble_eq_true rfl, Nat.le_of_ble_eq_true rfl⟩ ⟨Nat.le_of_ble_eq_true rfl, Nat.le_of_ble_eq_true rfl⟩ (Nat.le_of_ble_eq_true rfl) (Nat.le_of_ble_eq_true rfl)
def f_X8_unpair (a0 : Int32) (σ : gw_S) : Option ((Int32 ⊕ String) × gw_S) := ((f_X8_needName a0 σ).bind fun q2 => gw_bx q2 fun u1 => ((f_X2_isStandard a0 u1).bind fun p3 => (if p3.1 = 0 then ((f_X2_pairsOf a0 p3.2).bind fun p4 => (if p4.1 = 0 then (some (Sum.inr "java/lang/UnsupportedOperationException", p4.2)) else ((f_X2_dropPair a0 p4.2).bind fun p5 => ((f_X2_pairsOf a0 p5).bind fun p6 => (some (Sum.inl p6.1, p6.2)))))) else (some (Sum.inr "java/lang/UnsupportedOperationException", p3.2)))))
set_option maxHeartbeats 4000000 in
set_option maxRecDepth 100000 in
theorem gc_X8_unpair (l : Launch) (hfl : l.stackTraces = false) (G : gw_G) (a0 : Int32) (σ : gw_S) (o : ((Int32 ⊕ String) × gw_S)) (h : f_X8_unpair a0 σ = some o) : gw_N (fun sz => gw_xI G sz o) (fun sz => gw_XC G sz o) 2 l yX8_unpair cX8_unpair 2 (some .int) { frames := 7, cells := 2, slots := 12, locals := 110 } G [.ref (G.2.1 0), .int a0] σ := by
  refine gw_enx (own := RX8) (lv := [(0, .ref (G.2.1 0)), (1, .int a0)]) (by decide +kernel) rfl (Nat.le_of_ble_eq_true rfl) rfl ?_
  intro p e s m below meth c ls X hl hP
  obtain ⟨hx, hb, hml, hown, hts, -, -, hT, hZ, -⟩ := id X
  have hS : va_S (gw_A G s.heap.size) s.heap s.heap [] := va_S.rf
  unfold f_X8_unpair at h
  refine lv_aload_n hx hb dX8_unpair_0 rfl (lv_at hl 0 rfl) ?_
  refine lv_iload_n hx hb dX8_unpair_1 rfl (lv_at hl 1 rfl) ?_
  obtain ⟨q2, gq2, h⟩ := Option.bind_eq_some_iff.mp h
  refine gw_cx X h (gw_xV_ (C := RX8) X hP hS (gc_X8_needName l hfl G a0 σ _ gq2) gk_X8_needName gv_821 ⟨gv_823, gv_s15⟩ (va_recv hT.2.1 hP (ci := 10) (q0 := 0) rfl rfl) rfl rfl (Nat.le_of_ble_eq_true rfl) hl.1 ⟨rfl, rfl⟩ ⟨Nat.le_of_ble_eq_true rfl, Nat.le_of_ble_eq_true rfl⟩ ⟨Nat.le_of_ble_eq_true rfl, Nat.le_of_ble_eq_true rfl⟩ dX8_unpair_2) hS (Nat.le_of_ble_eq_true rfl) (Nat.le_of_ble_eq_true rfl) (fun u1 H locs h hP hS => ?_)
  refine lv_aload_n hx hb dX8_unpair_5 rfl (lv_at hl 0 rfl) ?_
  refine va_get (D := G.1) (ci := 10) (v := .ref (G.2.1 4)) (C := RX8) (T := TX8) (N := 7) hx hb hts gx_X8 hown hT.2.1 hP 0 rfl rfl 1 (by decide) (hts _ gv_215) (fun _ h9 => h9) rfl dX8_unpair_6 ?_
  refine lv_iload_n hx hb dX8_unpair_9 rfl (lv_at hl 1 rfl) ?_
  obtain ⟨p3, gp3, h⟩ := Option.bind_eq_some_iff.mp h
  refine gw_cz (gw_rV (C := RX2) X hP hS (gc_X2_isStandard l G a0 u1 _ gp3) gk_X2_isStandard gv_831 ⟨gv_832, gv_833⟩ (va_recv hT.2.1 hP (ci := 5) (q0 := 4) rfl rfl) rfl rfl (Nat.le_of_ble_eq_true rfl) hl.1 ⟨rfl, rfl⟩ ⟨Nat.le_of_ble_eq_true rfl, Nat.le_of_ble_eq_true rfl⟩ ⟨Nat.le_of_ble_eq_true rfl, Nat.le_of_ble_eq_true rfl⟩ dX8_unpair_10) hS (fun H locs hb_p3 hP hS => ?_)
  refine lv_if_ne (tgt := 27) hx hb dX8_unpair_13 (by decide) (fun c => ?_) (fun c => ?_)
  · have h := (if_neg c).symm.trans h
    exact gw_thr X hP hS hfl ge_X8_82_86 (i := 10) rfl h hl.1 dX8_unpair_27 dX8_unpair_30 dX8_unpair_31 dX8_unpair_33 dX8_unpair_36 ⟨Nat.le_of_ble_eq_true rfl, Nat.le_of_ble_eq_true rfl⟩ ⟨Nat.le_of_ble_eq_true rfl, Nat.le_of_ble_eq_true rfl⟩ (Nat.le_of_ble_eq_true rfl) (Nat.le_of_ble_eq_true rfl)
  · have h := (if_pos c).symm.trans h
    refine lv_aload_n hx hb dX8_unpair_16 rfl (lv_at hl 0 rfl) ?_
    refine va_get (D := G.1) (ci := 10) (v := .ref (G.2.1 4)) (C := RX8) (T := TX8) (N := 7) hx hb hts gx_X8 hown hT.2.1 hP 0 rfl rfl 1 (by decide) (hts _ gv_215) (fun _ h9 => h9) rfl dX8_unpair_17 ?_
    refine lv_iload_n hx hb dX8_unpair_20 rfl (lv_at hl 1 rfl) ?_
    obtain ⟨p4, gp4, h⟩ := Option.bind_eq_some_iff.mp h
    refine gw_ci (gw_rV (C := RX2) X hP hS (gc_X2_pairsOf l G a0 p3.2 _ gp4) gk_X2_pairsOf gv_312 ⟨gv_313, gv_314⟩ (va_recv hT.2.1 hP (ci := 5) (q0 := 4) rfl rfl) rfl rfl (Nat.le_of_ble_eq_true rfl) hl.1 ⟨rfl, rfl⟩ ⟨Nat.le_of_ble_eq_true rfl, Nat.le_of_ble_eq_true rfl⟩ ⟨Nat.le_of_ble_eq_true rfl, Nat.le_of_ble_eq_true rfl⟩ dX8_unpair_21) hS (fun H locs hP hS => ?_)
    refine lv_if_ne (tgt := 37) hx hb dX8_unpair_24 (by decide) (fun c => ?_) (fun c => ?_)
    · have h := (if_neg c).symm.trans h
      refine lv_aload_n hx hb dX8_unpair_37 rfl (lv_at hl 0 rfl) ?_
      refine va_get (D := G.1) (ci := 10) (v := .ref (G.2.1 4)) (C := RX8) (T := TX8) (N := 7) hx hb hts gx_X8 hown hT.2.1 hP 0 rfl rfl 1 (by decide) (hts _ gv_215) (fun _ h9 => h9) rfl dX8_unpair_38 ?_
      refine lv_iload_n hx hb dX8_unpair_41 rfl (lv_at hl 1 rfl) ?_
      obtain ⟨p5, gp5, h⟩ := Option.bind_eq_some_iff.mp h
      refine gw_cv (gw_rV (C := RX2) X hP hS (gc_X2_dropPair l G a0 p4.2 _ gp5) gk_X2_dropPair gv_862 ⟨gv_863, gv_864⟩ (va_recv hT.2.1 hP (ci := 5) (q0 := 4) rfl rfl) rfl rfl (Nat.le_of_ble_eq_true rfl) hl.1 ⟨rfl, rfl⟩ ⟨Nat.le_of_ble_eq_true rfl, Nat.le_of_ble_eq_true rfl⟩ ⟨Nat.le_of_ble_eq_true rfl, Nat.le_of_ble_eq_true rfl⟩ dX8_unpair_42) hS (fun H locs hP hS => ?_)
      refine lv_aload_n hx hb dX8_unpair_45 rfl (lv_at hl 0 rfl) ?_
      refine va_get (D := G.1) (ci := 10) (v := .ref (G.2.1 4)) (C := RX8) (T := TX8) (N := 7) hx hb hts gx_X8 hown hT.2.1 hP 0 rfl rfl 1 (by decide) (hts _ gv_215) (fun _ h9 => h9) rfl dX8_unpair_46 ?_
      refine lv_iload_n hx hb dX8_unpair_49 rfl (lv_at hl 1 rfl) ?_
      obtain ⟨p6, gp6, h⟩ := Option.bind_eq_some_iff.mp h
      refine gw_ci (gw_rV (C := RX2) X hP hS (gc_X2_pairsOf l G a0 p5 _ gp6) gk_X2_pairsOf gv_312 ⟨gv_313, gv_314⟩ (va_recv hT.2.1 hP (ci := 5) (q0 := 4) rfl rfl) rfl rfl (Nat.le_of_ble_eq_true rfl) hl.1 ⟨rfl, rfl⟩ ⟨Nat.le_of_ble_eq_true rfl, Nat.le_of_ble_eq_true rfl⟩ ⟨Nat.le_of_ble_eq_true rfl, Nat.le_of_ble_eq_true rfl⟩ dX8_unpair_50) hS (fun H locs hP hS => ?_)
      exact gw_xri X hP hS (Nat.le_of_ble_eq_true rfl) (Nat.le_of_ble_eq_true rfl) h dX8_unpair_53
    · have h := (if_pos c).symm.trans h
      exact gw_thr X hP hS hfl ge_X8_82_86 (i := 10) rfl h hl.1 dX8_unpair_27 dX8_unpair_30 dX8_unpair_31 dX8_unpair_33 dX8_unpair_36 ⟨Nat.le_of_ble_eq_true rfl, Nat.le_of_ble_eq_true rfl⟩ ⟨Nat.le_of_ble_eq_true rfl, Nat.le_of_ble_eq_true rfl⟩ (Nat.le_of_ble_eq_true rfl) (Nat.le_of_ble_eq_true rfl)
def f_X8_rank (a0 : Int32) (σ : gw_S) : Option ((Int32 ⊕ String) × gw_S) := ((f_X8_needName a0 σ).bind fun q2 => gw_bx q2 fun u1 => ((f_X2_height a0 u1).bind fun p3 => (some (Sum.inl p3.1, p3.2))))
set_option maxHeartbeats 4000000 in
set_option maxRecDepth 100000 in
theorem gc_X8_rank (l : Launch) (hfl : l.stackTraces = false) (G : gw_G) (a0 : Int32) (σ : gw_S) (o : ((Int32 ⊕ String) × gw_S)) (h : f_X8_rank a0 σ = some o) : gw_N (fun sz => gw_xI G sz o) (fun sz => gw_XC G sz o) 1 l yX8_rank cX8_rank 2 (some .int) { frames := 7, cells := 1, slots := 6, locals := 103 } G [.ref (G.2.1 0), .int a0] σ := by
  refine gw_enx (own := RX8) (lv := [(0, .ref (G.2.1 0)), (1, .int a0)]) (by decide +kernel) rfl (Nat.le_of_ble_eq_true rfl) rfl ?_
  intro p e s m below meth c ls X hl hP
  obtain ⟨hx, hb, hml, hown, hts, -, -, hT, hZ, -⟩ := id X
  have hS : va_S (gw_A G s.heap.size) s.heap s.heap [] := va_S.rf
  unfold f_X8_rank at h
  refine lv_aload_n hx hb dX8_rank_0 rfl (lv_at hl 0 rfl) ?_
  refine lv_iload_n hx hb dX8_rank_1 rfl (lv_at hl 1 rfl) ?_
  obtain ⟨q2, gq2, h⟩ := Option.bind_eq_some_iff.mp h
  refine gw_cx X h (gw_xV_ (C := RX8) X hP hS (gc_X8_needName l hfl G a0 σ _ gq2) gk_X8_needName gv_821 ⟨gv_823, gv_s15⟩ (va_recv hT.2.1 hP (ci := 10) (q0 := 0) rfl rfl) rfl rfl (Nat.le_of_ble_eq_true rfl) hl.1 ⟨rfl, rfl⟩ ⟨Nat.le_of_ble_eq_true rfl, Nat.le_of_ble_eq_true rfl⟩ ⟨Nat.le_of_ble_eq_true rfl, Nat.le_of_ble_eq_true rfl⟩ dX8_rank_2) hS (Nat.le_of_ble_eq_true rfl) (Nat.le_of_ble_eq_true rfl) (fun u1 H locs h hP hS => ?_)
  refine lv_aload_n hx hb dX8_rank_5 rfl (lv_at hl 0 rfl) ?_
  refine va_get (D := G.1) (ci := 10) (v := .ref (G.2.1 4)) (C := RX8) (T := TX8) (N := 7) hx hb hts gx_X8 hown hT.2.1 hP 0 rfl rfl 1 (by decide) (hts _ gv_215) (fun _ h9 => h9) rfl dX8_rank_6 ?_
  refine lv_iload_n hx hb dX8_rank_9 rfl (lv_at hl 1 rfl) ?_
  obtain ⟨p3, gp3, h⟩ := Option.bind_eq_some_iff.mp h
  refine gw_ci (gw_rV (C := RX2) X hP hS (gc_X2_height l G a0 u1 _ gp3) gk_X2_height gv_307 ⟨gv_308, gv_309⟩ (va_recv hT.2.1 hP (ci := 5) (q0 := 4) rfl rfl) rfl rfl (Nat.le_of_ble_eq_true rfl) hl.1 ⟨rfl, rfl⟩ ⟨Nat.le_of_ble_eq_true rfl, Nat.le_of_ble_eq_true rfl⟩ ⟨Nat.le_of_ble_eq_true rfl, Nat.le_of_ble_eq_true rfl⟩ dX8_rank_10) hS (fun H locs hP hS => ?_)
  exact gw_xri X hP hS (Nat.le_of_ble_eq_true rfl) (Nat.le_of_ble_eq_true rfl) h dX8_rank_13
def f_X8_standard_L77 : Nat → Int32 → Int32 → Int32 → gw_S → Option ((Int32 ⊕ String) × gw_S)
  | 0, _, _, _, _ => none
  | n + 1, v77_1, v77_2, v77_3, σ => (if (16 : Int32) ≤ v77_3 then ((f_X2_standardOf v77_1 σ).bind fun p8 => (some (Sum.inl p8.1, p8.2))) else ((f_X8_contains v77_2 v77_3 σ).bind fun p9 => (if p9.1 = 0 then (f_X8_standard_L77 n v77_1 v77_2 (v77_3 + (1 : Int32)) p9.2) else ((f_X2_addStandard v77_3 p9.2).bind fun p10 => (f_X8_standard_L77 n v77_1 v77_2 (v77_3 + (1 : Int32)) p10)))))
def f_X8_standard (a0 : Int32) (σ : gw_S) : Option ((Int32 ⊕ String) × gw_S) := (if a0 < 0 then (some (Sum.inr "java/lang/IllegalArgumentException", σ)) else (if a0 < (16 : Int32) then ((f_X3_size  σ).bind fun p1 => (if p1.1 = 0 then (some (Sum.inr "java/lang/UnsupportedOperationException", p1.2)) else ((f_X3_down (0 : Int32) p1.2).bind fun p2 => ((f_X3_all  p2.2).bind fun p3 => (if p2.1 = p3.1 then ((f_X2_missingFor a0 p3.2).bind fun p4 => ((f_J6_bitCount_0f7a4 p4.1 p4.2).bind fun p5 => ((f_X8_needRoomForNames p5.1 p5.2).bind fun q7 => gw_bx q7 fun u6 => (f_X8_standard_L77 64 a0 p4.1 (0 : Int32) u6)))) else (some (Sum.inr "java/lang/UnsupportedOperationException", p3.2))))))) else (some (Sum.inr "java/lang/IllegalArgumentException", σ))))
set_option maxHeartbeats 4000000 in
set_option maxRecDepth 100000 in
theorem gc_X8_standard (l : Launch) (hfl : l.stackTraces = false) (G : gw_G) (a0 : Int32) (σ : gw_S) (o : ((Int32 ⊕ String) × gw_S)) (h : f_X8_standard a0 σ = some o) : gw_N (fun sz => gw_xI G sz o) (fun sz => gw_XC G sz o) 1 l yX8_standard cX8_standard 4 (some .int) { frames := 7, cells := 1, slots := 6, locals := 136 } G [.ref (G.2.1 0), .int a0] σ := by
  refine gw_enx (own := RX8) (lv := [(0, .ref (G.2.1 0)), (1, .int a0)]) (by decide +kernel) rfl (Nat.le_of_ble_eq_true rfl) rfl ?_
  intro p e s m below meth c ls X hl hP
  obtain ⟨hx, hb, hml, hown, hts, -, -, hT, hZ, -⟩ := id X
  have hS : va_S (gw_A G s.heap.size) s.heap s.heap [] := va_S.rf
  have L77 : ∀ (n : Nat) (v77_1 : Int32) (v77_2 : Int32) (v77_3 : Int32) (σ : gw_S) (H : Heap) (locs : List Loc) (ls : Array Slot), f_X8_standard_L77 n v77_1 v77_2 v77_3 σ = some o → gw_P G σ H → va_S (gw_A G s.heap.size) s.heap H locs → lv_has ls 4 [(0, .ref (G.2.1 0)), (1, .int v77_1), (2, .int v77_2), (3, .int v77_3)] → W p l e { frames := 7, cells := 1, slots := 6, locals := 136 } s m [.ref (G.2.1 0), .int a0].toArray below meth c H locs 1 (6 * 1) (vx_MQ below (gw_xI G s.heap.size o) (gw_XC G s.heap.size o) [.ref (G.2.1 0), .int a0].toArray s 1 (6 * 1) (gw_A G s.heap.size)) (F0 m 77 ls []) := by
    intro n
    induction n with
    | zero =>
      intro v77_1 v77_2 v77_3 σ H locs ls h
      exact absurd h (by rw [f_X8_standard_L77.eq_1]; exact fun h => nomatch h)
    | succ n ih =>
      intro v77_1 v77_2 v77_3 σ H locs ls h hP hS hl
      rw [f_X8_standard_L77.eq_2] at h
      refine lv_iload_n hx hb dX8_standard_77 rfl (lv_at hl 3 rfl) ?_
      refine lv_bipush (v := 16) hx hb dX8_standard_78 (by decide) ?_
      refine lv_icmp_ge (tgt := 105) hx hb dX8_standard_80 (by decide) (fun c => ?_) (fun c => ?_)
      · have h := (if_pos c).symm.trans h
        refine lv_aload_n hx hb dX8_standard_105 rfl (lv_at hl 0 rfl) ?_
        refine va_get (D := G.1) (ci := 10) (v := .ref (G.2.1 4)) (C := RX8) (T := TX8) (N := 7) hx hb hts gx_X8 hown hT.2.1 hP 0 rfl rfl 1 (by decide) (hts _ gv_215) (fun _ h9 => h9) rfl dX8_standard_106 ?_
        refine lv_iload_n hx hb dX8_standard_109 rfl (lv_at hl 1 rfl) ?_
        obtain ⟨p8, gp8, h⟩ := Option.bind_eq_some_iff.mp h
        refine gw_ci (gw_rV (C := RX2) X hP hS (gc_X2_standardOf l G v77_1 σ _ gp8) gk_X2_standardOf gv_893 ⟨gv_836, gv_837⟩ (va_recv hT.2.1 hP (ci := 5) (q0 := 4) rfl rfl) rfl rfl (Nat.le_of_ble_eq_true rfl) hl.1 ⟨rfl, rfl⟩ ⟨Nat.le_of_ble_eq_true rfl, Nat.le_of_ble_eq_true rfl⟩ ⟨Nat.le_of_ble_eq_true rfl, Nat.le_of_ble_eq_true rfl⟩ dX8_standard_110) hS (fun H locs hP hS => ?_)
        exact gw_xri X hP hS (Nat.le_of_ble_eq_true rfl) (Nat.le_of_ble_eq_true rfl) h dX8_standard_113
      · have h := (if_neg c).symm.trans h
        refine lv_iload_n hx hb dX8_standard_83 rfl (lv_at hl 2 rfl) ?_
        refine lv_iload_n hx hb dX8_standard_84 rfl (lv_at hl 3 rfl) ?_
        obtain ⟨p9, gp9, h⟩ := Option.bind_eq_some_iff.mp h
        refine gw_cz (gw_rS X hP hS (gc_X8_contains l G v77_2 v77_3 σ _ gp9) gk_X8_contains gv_485 gv_278 rfl rfl (Nat.le_of_ble_eq_true rfl) hl.1 ⟨rfl, rfl⟩ ⟨Nat.le_of_ble_eq_true rfl, Nat.le_of_ble_eq_true rfl⟩ ⟨Nat.le_of_ble_eq_true rfl, Nat.le_of_ble_eq_true rfl⟩ dX8_standard_85) hS (fun H locs hb_p9 hP hS => ?_)
        refine lv_if_eq (tgt := 99) hx hb dX8_standard_88 (by decide) (fun c => ?_) (fun c => ?_)
        · have h := (if_pos c).symm.trans h
          refine lv_iinc (v := (v77_3 + (1 : Int32))) (lv' := [(3, .int (v77_3 + (1 : Int32))), (0, .ref (G.2.1 0)), (1, .int v77_1), (2, .int v77_2)]) hx hb dX8_standard_99 hl (k := 3) rfl rfl (by decide) rfl (fun ls hl => ?_)
          refine lv_goto (tgt := 77) hx hb dX8_standard_102 (by decide) ?_
          exact ih v77_1 v77_2 (v77_3 + (1 : Int32)) p9.2 _ _ _ h hP hS (lv_sub hl [1, 2, 3, 0] rfl)
        · have h := (if_neg c).symm.trans h
          refine lv_aload_n hx hb dX8_standard_91 rfl (lv_at hl 0 rfl) ?_
          refine va_get (D := G.1) (ci := 10) (v := .ref (G.2.1 4)) (C := RX8) (T := TX8) (N := 7) hx hb hts gx_X8 hown hT.2.1 hP 0 rfl rfl 1 (by decide) (hts _ gv_215) (fun _ h9 => h9) rfl dX8_standard_92 ?_
          refine lv_iload_n hx hb dX8_standard_95 rfl (lv_at hl 3 rfl) ?_
          obtain ⟨p10, gp10, h⟩ := Option.bind_eq_some_iff.mp h
          refine gw_cv (gw_rV (C := RX2) X hP hS (gc_X2_addStandard l G v77_3 p9.2 _ gp10) gk_X2_addStandard gv_887 ⟨gv_888, gv_889⟩ (va_recv hT.2.1 hP (ci := 5) (q0 := 4) rfl rfl) rfl rfl (Nat.le_of_ble_eq_true rfl) hl.1 ⟨rfl, rfl⟩ ⟨Nat.le_of_ble_eq_true rfl, Nat.le_of_ble_eq_true rfl⟩ ⟨Nat.le_of_ble_eq_true rfl, Nat.le_of_ble_eq_true rfl⟩ dX8_standard_96) hS (fun H locs hP hS => ?_)
          refine lv_iinc (v := (v77_3 + (1 : Int32))) (lv' := [(3, .int (v77_3 + (1 : Int32))), (0, .ref (G.2.1 0)), (1, .int v77_1), (2, .int v77_2)]) hx hb dX8_standard_99 hl (k := 3) rfl rfl (by decide) rfl (fun ls hl => ?_)
          refine lv_goto (tgt := 77) hx hb dX8_standard_102 (by decide) ?_
          exact ih v77_1 v77_2 (v77_3 + (1 : Int32)) p10 _ _ _ h hP hS (lv_sub hl [1, 2, 3, 0] rfl)
  unfold f_X8_standard at h
  refine lv_iload_n hx hb dX8_standard_0 rfl (lv_at hl 1 rfl) ?_
  refine lv_if_lt (tgt := 10) hx hb dX8_standard_1 (by decide) (fun c => ?_) (fun c => ?_)
  · have h := (if_pos c).symm.trans h
    exact gw_thr X hP hS hfl ge_X8_143_147 (i := 11) rfl h hl.1 dX8_standard_10 dX8_standard_13 dX8_standard_14 dX8_standard_16 dX8_standard_19 ⟨Nat.le_of_ble_eq_true rfl, Nat.le_of_ble_eq_true rfl⟩ ⟨Nat.le_of_ble_eq_true rfl, Nat.le_of_ble_eq_true rfl⟩ (Nat.le_of_ble_eq_true rfl) (Nat.le_of_ble_eq_true rfl)
  · have h := (if_neg c).symm.trans h
    refine lv_iload_n hx hb dX8_standard_4 rfl (lv_at hl 1 rfl) ?_
    refine lv_bipush (v := 16) hx hb dX8_standard_5 (by decide) ?_
    refine lv_icmp_lt (tgt := 20) hx hb dX8_standard_7 (by decide) (fun c => ?_) (fun c => ?_)
    · have h := (if_pos c).symm.trans h
      refine lv_aload_n hx hb dX8_standard_20 rfl (lv_at hl 0 rfl) ?_
      refine va_get (D := G.1) (ci := 10) (v := .ref (G.2.1 1)) (C := RX8) (T := TX8) (N := 7) hx hb hts gx_X8 hown hT.2.1 hP 0 rfl rfl 0 (by decide) (hts _ gv_214) (fun _ h9 => h9) rfl dX8_standard_21 ?_
      obtain ⟨p1, gp1, h⟩ := Option.bind_eq_some_iff.mp h
      refine gw_ci (gw_rV (C := RX3) X hP hS (gc_X3_size l G  σ _ gp1) gk_X3_size gv_258 ⟨gv_259, gv_260⟩ (va_recv hT.2.1 hP (ci := 6) (q0 := 1) rfl rfl) rfl rfl (Nat.le_of_ble_eq_true rfl) hl.1 ⟨rfl, rfl⟩ ⟨Nat.le_of_ble_eq_true rfl, Nat.le_of_ble_eq_true rfl⟩ ⟨Nat.le_of_ble_eq_true rfl, Nat.le_of_ble_eq_true rfl⟩ dX8_standard_24) hS (fun H locs hP hS => ?_)
      refine lv_if_eq (tgt := 48) hx hb dX8_standard_27 (by decide) (fun c => ?_) (fun c => ?_)
      · have h := (if_pos c).symm.trans h
        exact gw_thr X hP hS hfl ge_X8_82_86 (i := 12) rfl h hl.1 dX8_standard_48 dX8_standard_51 dX8_standard_52 dX8_standard_54 dX8_standard_57 ⟨Nat.le_of_ble_eq_true rfl, Nat.le_of_ble_eq_true rfl⟩ ⟨Nat.le_of_ble_eq_true rfl, Nat.le_of_ble_eq_true rfl⟩ (Nat.le_of_ble_eq_true rfl) (Nat.le_of_ble_eq_true rfl)
      · have h := (if_neg c).symm.trans h
        refine lv_aload_n hx hb dX8_standard_30 rfl (lv_at hl 0 rfl) ?_
        refine va_get (D := G.1) (ci := 10) (v := .ref (G.2.1 1)) (C := RX8) (T := TX8) (N := 7) hx hb hts gx_X8 hown hT.2.1 hP 0 rfl rfl 0 (by decide) (hts _ gv_214) (fun _ h9 => h9) rfl dX8_standard_31 ?_
        refine lv_iconst (v := 0) hx hb dX8_standard_34 (by decide) ?_
        obtain ⟨p2, gp2, h⟩ := Option.bind_eq_some_iff.mp h
        refine gw_ci (gw_rV (C := RX3) X hP hS (gc_X3_down l G (0 : Int32) p1.2 _ gp2) gk_X3_down gv_302 ⟨gv_271, gv_272⟩ (va_recv hT.2.1 hP (ci := 6) (q0 := 1) rfl rfl) rfl rfl (Nat.le_of_ble_eq_true rfl) hl.1 ⟨rfl, rfl⟩ ⟨Nat.le_of_ble_eq_true rfl, Nat.le_of_ble_eq_true rfl⟩ ⟨Nat.le_of_ble_eq_true rfl, Nat.le_of_ble_eq_true rfl⟩ dX8_standard_35) hS (fun H locs hP hS => ?_)
        refine lv_aload_n hx hb dX8_standard_38 rfl (lv_at hl 0 rfl) ?_
        refine va_get (D := G.1) (ci := 10) (v := .ref (G.2.1 1)) (C := RX8) (T := TX8) (N := 7) hx hb hts gx_X8 hown hT.2.1 hP 0 rfl rfl 0 (by decide) (hts _ gv_214) (fun _ h9 => h9) rfl dX8_standard_39 ?_
        obtain ⟨p3, gp3, h⟩ := Option.bind_eq_some_iff.mp h
        refine gw_ci (gw_rV (C := RX3) X hP hS (gc_X3_all l G  p2.2 _ gp3) gk_X3_all gv_721 ⟨gv_371, gv_372⟩ (va_recv hT.2.1 hP (ci := 6) (q0 := 1) rfl rfl) rfl rfl (Nat.le_of_ble_eq_true rfl) hl.1 ⟨rfl, rfl⟩ ⟨Nat.le_of_ble_eq_true rfl, Nat.le_of_ble_eq_true rfl⟩ ⟨Nat.le_of_ble_eq_true rfl, Nat.le_of_ble_eq_true rfl⟩ dX8_standard_42) hS (fun H locs hP hS => ?_)
        refine lv_icmp_eq (tgt := 58) hx hb dX8_standard_45 (by decide) (fun c => ?_) (fun c => ?_)
        · have h := (if_pos c).symm.trans h
          refine lv_aload_n hx hb dX8_standard_58 rfl (lv_at hl 0 rfl) ?_
          refine va_get (D := G.1) (ci := 10) (v := .ref (G.2.1 4)) (C := RX8) (T := TX8) (N := 7) hx hb hts gx_X8 hown hT.2.1 hP 0 rfl rfl 1 (by decide) (hts _ gv_215) (fun _ h9 => h9) rfl dX8_standard_59 ?_
          refine lv_iload_n hx hb dX8_standard_62 rfl (lv_at hl 1 rfl) ?_
          obtain ⟨p4, gp4, h⟩ := Option.bind_eq_some_iff.mp h
          refine gw_ci (gw_rV (C := RX2) X hP hS (gc_X2_missingFor l G a0 p3.2 _ gp4) gk_X2_missingFor gv_882 ⟨gv_883, gv_884⟩ (va_recv hT.2.1 hP (ci := 5) (q0 := 4) rfl rfl) rfl rfl (Nat.le_of_ble_eq_true rfl) hl.1 ⟨rfl, rfl⟩ ⟨Nat.le_of_ble_eq_true rfl, Nat.le_of_ble_eq_true rfl⟩ ⟨Nat.le_of_ble_eq_true rfl, Nat.le_of_ble_eq_true rfl⟩ dX8_standard_63) hS (fun H locs hP hS => ?_)
          refine lv_istore_n (lv' := [(2, .int p4.1), (0, .ref (G.2.1 0)), (1, .int a0)]) hx hb dX8_standard_66 rfl hl (by decide) rfl (fun ls hl => ?_)
          refine lv_aload_n hx hb dX8_standard_67 rfl (lv_at hl 1 rfl) ?_
          refine lv_iload_n hx hb dX8_standard_68 rfl (lv_at hl 0 rfl) ?_
          obtain ⟨p5, gp5, h⟩ := Option.bind_eq_some_iff.mp h
          refine gw_ci (gw_rS X hP hS (gc_J6_bitCount_0f7a4 l G p4.1 p4.2 _ gp5) gk_J6_bitCount_0f7a4 gv_248 gv_249 rfl rfl (Nat.le_of_ble_eq_true rfl) hl.1 ⟨rfl, rfl⟩ ⟨Nat.le_of_ble_eq_true rfl, Nat.le_of_ble_eq_true rfl⟩ ⟨Nat.le_of_ble_eq_true rfl, Nat.le_of_ble_eq_true rfl⟩ dX8_standard_69) hS (fun H locs hP hS => ?_)
          obtain ⟨q7, gq7, h⟩ := Option.bind_eq_some_iff.mp h
          refine gw_cx X h (gw_xV_ (C := RX8) X hP hS (gc_X8_needRoomForNames l hfl G p5.1 p5.2 _ gq7) gk_X8_needRoomForNames gv_793 ⟨gv_795, gv_s12⟩ (va_recv hT.2.1 hP (ci := 10) (q0 := 0) rfl rfl) rfl rfl (Nat.le_of_ble_eq_true rfl) hl.1 ⟨rfl, rfl⟩ ⟨Nat.le_of_ble_eq_true rfl, Nat.le_of_ble_eq_true rfl⟩ ⟨Nat.le_of_ble_eq_true rfl, Nat.le_of_ble_eq_true rfl⟩ dX8_standard_72) hS (Nat.le_of_ble_eq_true rfl) (Nat.le_of_ble_eq_true rfl) (fun u6 H locs h hP hS => ?_)
          refine lv_iconst (v := 0) hx hb dX8_standard_75 (by decide) ?_
          refine lv_istore_n (lv' := [(3, .int (0 : Int32)), (2, .int p4.1), (0, .ref (G.2.1 0)), (1, .int a0)]) hx hb dX8_standard_76 rfl hl (by decide) rfl (fun ls hl => ?_)
          exact L77 64 a0 p4.1 (0 : Int32) u6 _ _ _ h hP hS (lv_sub hl [2, 3, 1, 0] rfl)
        · have h := (if_neg c).symm.trans h
          exact gw_thr X hP hS hfl ge_X8_82_86 (i := 12) rfl h hl.1 dX8_standard_48 dX8_standard_51 dX8_standard_52 dX8_standard_54 dX8_standard_57 ⟨Nat.le_of_ble_eq_true rfl, Nat.le_of_ble_eq_true rfl⟩ ⟨Nat.le_of_ble_eq_true rfl, Nat.le_of_ble_eq_true rfl⟩ (Nat.le_of_ble_eq_true rfl) (Nat.le_of_ble_eq_true rfl)
    · have h := (if_neg c).symm.trans h
      exact gw_thr X hP hS hfl ge_X8_143_147 (i := 11) rfl h hl.1 dX8_standard_10 dX8_standard_13 dX8_standard_14 dX8_standard_16 dX8_standard_19 ⟨Nat.le_of_ble_eq_true rfl, Nat.le_of_ble_eq_true rfl⟩ ⟨Nat.le_of_ble_eq_true rfl, Nat.le_of_ble_eq_true rfl⟩ (Nat.le_of_ble_eq_true rfl) (Nat.le_of_ble_eq_true rfl)
def f_X8_becomes (a0 : Int32) (a1 : Int32) (σ : gw_S) : Option ((Int32 ⊕ String) × gw_S) := ((f_X8_needName a0 σ).bind fun q2 => gw_bx q2 fun u1 => ((f_X8_needWorld a1 u1).bind fun q4 => gw_bx q4 fun u3 => ((f_X7_enter a1 (0 : Int32) u3).bind fun p5 => ((f_X7_codeOf a0 p5).bind fun p6 => (some (Sum.inl p6.1, p6.2))))))
set_option maxHeartbeats 4000000 in
set_option maxRecDepth 100000 in
theorem gc_X8_becomes (l : Launch) (hfl : l.stackTraces = false) (G : gw_G) (a0 : Int32) (a1 : Int32) (σ : gw_S) (o : ((Int32 ⊕ String) × gw_S)) (h : f_X8_becomes a0 a1 σ = some o) : gw_N (fun sz => gw_xI G sz o) (fun sz => gw_XC G sz o) 2 l yX8_becomes cX8_becomes 3 (some .int) { frames := 7, cells := 2, slots := 12, locals := 103 } G [.ref (G.2.1 0), .int a0, .int a1] σ := by
  refine gw_enx (own := RX8) (lv := [(0, .ref (G.2.1 0)), (1, .int a0), (2, .int a1)]) (by decide +kernel) rfl (Nat.le_of_ble_eq_true rfl) rfl ?_
  intro p e s m below meth c ls X hl hP
  obtain ⟨hx, hb, hml, hown, hts, -, -, hT, hZ, -⟩ := id X
  have hS : va_S (gw_A G s.heap.size) s.heap s.heap [] := va_S.rf
  unfold f_X8_becomes at h
  refine lv_aload_n hx hb dX8_becomes_0 rfl (lv_at hl 0 rfl) ?_
  refine lv_iload_n hx hb dX8_becomes_1 rfl (lv_at hl 1 rfl) ?_
  obtain ⟨q2, gq2, h⟩ := Option.bind_eq_some_iff.mp h
  refine gw_cx X h (gw_xV_ (C := RX8) X hP hS (gc_X8_needName l hfl G a0 σ _ gq2) gk_X8_needName gv_821 ⟨gv_823, gv_s15⟩ (va_recv hT.2.1 hP (ci := 10) (q0 := 0) rfl rfl) rfl rfl (Nat.le_of_ble_eq_true rfl) hl.1 ⟨rfl, rfl⟩ ⟨Nat.le_of_ble_eq_true rfl, Nat.le_of_ble_eq_true rfl⟩ ⟨Nat.le_of_ble_eq_true rfl, Nat.le_of_ble_eq_true rfl⟩ dX8_becomes_2) hS (Nat.le_of_ble_eq_true rfl) (Nat.le_of_ble_eq_true rfl) (fun u1 H locs h hP hS => ?_)
  refine lv_aload_n hx hb dX8_becomes_5 rfl (lv_at hl 0 rfl) ?_
  refine lv_iload_n hx hb dX8_becomes_6 rfl (lv_at hl 2 rfl) ?_
  obtain ⟨q4, gq4, h⟩ := Option.bind_eq_some_iff.mp h
  refine gw_cx X h (gw_xV_ (C := RX8) X hP hS (gc_X8_needWorld l hfl G a1 u1 _ gq4) gk_X8_needWorld gv_781 ⟨gv_783, gv_s11⟩ (va_recv hT.2.1 hP (ci := 10) (q0 := 0) rfl rfl) rfl rfl (Nat.le_of_ble_eq_true rfl) hl.1 ⟨rfl, rfl⟩ ⟨Nat.le_of_ble_eq_true rfl, Nat.le_of_ble_eq_true rfl⟩ ⟨Nat.le_of_ble_eq_true rfl, Nat.le_of_ble_eq_true rfl⟩ dX8_becomes_7) hS (Nat.le_of_ble_eq_true rfl) (Nat.le_of_ble_eq_true rfl) (fun u3 H locs h hP hS => ?_)
  refine lv_aload_n hx hb dX8_becomes_10 rfl (lv_at hl 0 rfl) ?_
  refine va_get (D := G.1) (ci := 10) (v := .ref (G.2.1 30)) (C := RX8) (T := TX8) (N := 7) hx hb hts gx_X8 hown hT.2.1 hP 0 rfl rfl 6 (by decide) (hts _ gv_220) (fun _ h9 => h9) rfl dX8_becomes_11 ?_
  refine lv_iload_n hx hb dX8_becomes_14 rfl (lv_at hl 2 rfl) ?_
  refine lv_iconst (v := 0) hx hb dX8_becomes_15 (by decide) ?_
  obtain ⟨p5, gp5, h⟩ := Option.bind_eq_some_iff.mp h
  refine gw_cv (gw_rV (C := RX7) X hP hS (gc_X7_enter l G a1 (0 : Int32) u3 _ gp5) gk_X7_enter gv_536 ⟨gv_496, gv_497⟩ (va_recv hT.2.1 hP (ci := 9) (q0 := 30) rfl rfl) rfl rfl (Nat.le_of_ble_eq_true rfl) hl.1 ⟨rfl, rfl⟩ ⟨Nat.le_of_ble_eq_true rfl, Nat.le_of_ble_eq_true rfl⟩ ⟨Nat.le_of_ble_eq_true rfl, Nat.le_of_ble_eq_true rfl⟩ dX8_becomes_16) hS (fun H locs hP hS => ?_)
  refine lv_aload_n hx hb dX8_becomes_19 rfl (lv_at hl 0 rfl) ?_
  refine va_get (D := G.1) (ci := 10) (v := .ref (G.2.1 30)) (C := RX8) (T := TX8) (N := 7) hx hb hts gx_X8 hown hT.2.1 hP 0 rfl rfl 6 (by decide) (hts _ gv_220) (fun _ h9 => h9) rfl dX8_becomes_20 ?_
  refine lv_iload_n hx hb dX8_becomes_23 rfl (lv_at hl 1 rfl) ?_
  obtain ⟨p6, gp6, h⟩ := Option.bind_eq_some_iff.mp h
  refine gw_ci (gw_rV (C := RX7) X hP hS (gc_X7_codeOf l G a0 p5 _ gp6) gk_X7_codeOf gv_548 ⟨gv_509, gv_510⟩ (va_recv hT.2.1 hP (ci := 9) (q0 := 30) rfl rfl) rfl rfl (Nat.le_of_ble_eq_true rfl) hl.1 ⟨rfl, rfl⟩ ⟨Nat.le_of_ble_eq_true rfl, Nat.le_of_ble_eq_true rfl⟩ ⟨Nat.le_of_ble_eq_true rfl, Nat.le_of_ble_eq_true rfl⟩ dX8_becomes_24) hS (fun H locs hP hS => ?_)
  exact gw_xri X hP hS (Nat.le_of_ble_eq_true rfl) (Nat.le_of_ble_eq_true rfl) h dX8_becomes_27
