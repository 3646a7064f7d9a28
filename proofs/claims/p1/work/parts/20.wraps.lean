theorem gv_556 : Cond.code yX8_condition cX8_condition 1 (some .int) ∈ gw_L := gw_tab 556 (by decide +kernel) (by decide +kernel)
theorem gk_X8_condition : gw_K yX8_condition cX8_condition 1 (some .int) 0 := ⟨gv_556, gv_1, by decide +kernel, by decide +kernel⟩
theorem gv_553 : Cond.methodLink RL 7 yX8_condition ∈ gw_L := gw_tab 553 (by decide +kernel) (by decide +kernel)
theorem gv_554 : Cond.instanceMethod yX8_condition ∈ gw_L := gw_tab 554 (by decide +kernel) (by decide +kernel)
theorem gv_555 : Cond.selects RX8 yX8_condition yX8_condition ∈ gw_L := gw_tab 555 (by decide +kernel) (by decide +kernel)
theorem gv_552 : Cond.classLink RL 13 "java/lang/IllegalStateException" ∈ gw_L := gw_tab 552 (by decide +kernel) (by decide +kernel)
theorem gv_559 : Cond.castable "java/lang/IllegalStateException" "java/lang/IllegalStateException" ∈ gw_L := gw_tab 559 (by decide +kernel) (by decide +kernel)
theorem gv_640 : Cond.code yX8_under cX8_under 3 (some .int) ∈ gw_L := gw_tab 640 (by decide +kernel) (by decide +kernel)
theorem gk_X8_under : gw_K yX8_under cX8_under 3 (some .int) 2 := ⟨gv_640, gv_1, by decide +kernel, by decide +kernel⟩
theorem gv_637 : Cond.methodLink RL 15 yX8_under ∈ gw_L := gw_tab 637 (by decide +kernel) (by decide +kernel)
theorem gv_638 : Cond.instanceMethod yX8_under ∈ gw_L := gw_tab 638 (by decide +kernel) (by decide +kernel)
theorem gv_639 : Cond.selects RX8 yX8_under yX8_under ∈ gw_L := gw_tab 639 (by decide +kernel) (by decide +kernel)
theorem gv_635 : Cond.classLink RL 19 "java/lang/IndexOutOfBoundsException" ∈ gw_L := gw_tab 635 (by decide +kernel) (by decide +kernel)
theorem gv_636 : Cond.classLink RL 21 "java/lang/UnsupportedOperationException" ∈ gw_L := gw_tab 636 (by decide +kernel) (by decide +kernel)
theorem gv_655 : Cond.castable "java/lang/IndexOutOfBoundsException" "java/lang/IndexOutOfBoundsException" ∈ gw_L := gw_tab 655 (by decide +kernel) (by decide +kernel)
theorem gv_671 : Cond.castable "java/lang/UnsupportedOperationException" "java/lang/UnsupportedOperationException" ∈ gw_L := gw_tab 671 (by decide +kernel) (by decide +kernel)
theorem gv_701 : Cond.code yX8_isBelow cX8_isBelow 3 (some .boolean) ∈ gw_L := gw_tab 701 (by decide +kernel) (by decide +kernel)
theorem gk_X8_isBelow : gw_K yX8_isBelow cX8_isBelow 3 (some .boolean) 2 := ⟨gv_701, gv_1, by decide +kernel, by decide +kernel⟩
theorem gv_698 : Cond.methodLink RL 23 yX8_isBelow ∈ gw_L := gw_tab 698 (by decide +kernel) (by decide +kernel)
theorem gv_699 : Cond.instanceMethod yX8_isBelow ∈ gw_L := gw_tab 699 (by decide +kernel) (by decide +kernel)
theorem gv_700 : Cond.selects RX8 yX8_isBelow yX8_isBelow ∈ gw_L := gw_tab 700 (by decide +kernel) (by decide +kernel)
theorem gv_708 : Cond.code yX8_fit cX8_fit 3 (some .boolean) ∈ gw_L := gw_tab 708 (by decide +kernel) (by decide +kernel)
theorem gk_X8_fit : gw_K yX8_fit cX8_fit 3 (some .boolean) 2 := ⟨gv_708, gv_1, by decide +kernel, by decide +kernel⟩
theorem gv_705 : Cond.methodLink RL 27 yX8_fit ∈ gw_L := gw_tab 705 (by decide +kernel) (by decide +kernel)
theorem gv_706 : Cond.instanceMethod yX8_fit ∈ gw_L := gw_tab 706 (by decide +kernel) (by decide +kernel)
theorem gv_707 : Cond.selects RX8 yX8_fit yX8_fit ∈ gw_L := gw_tab 707 (by decide +kernel) (by decide +kernel)
theorem gv_716 : Cond.code yX8_isAntichain cX8_isAntichain 4 (some .boolean) ∈ gw_L := gw_tab 716 (by decide +kernel) (by decide +kernel)
theorem gk_X8_isAntichain : gw_K yX8_isAntichain cX8_isAntichain 4 (some .boolean) 1 := ⟨gv_716, gv_1, by decide +kernel, by decide +kernel⟩
theorem gv_713 : Cond.methodLink RL 30 yX8_isAntichain ∈ gw_L := gw_tab 713 (by decide +kernel) (by decide +kernel)
theorem gv_714 : Cond.instanceMethod yX8_isAntichain ∈ gw_L := gw_tab 714 (by decide +kernel) (by decide +kernel)
theorem gv_715 : Cond.selects RX8 yX8_isAntichain yX8_isAntichain ∈ gw_L := gw_tab 715 (by decide +kernel) (by decide +kernel)
theorem gv_712 : Cond.classLink RL 34 "java/lang/IllegalArgumentException" ∈ gw_L := gw_tab 712 (by decide +kernel) (by decide +kernel)
theorem gv_724 : Cond.castable "java/lang/IllegalArgumentException" "java/lang/IllegalArgumentException" ∈ gw_L := gw_tab 724 (by decide +kernel) (by decide +kernel)
theorem gv_744 : Cond.code yX8_isDense cX8_isDense 3 (some .boolean) ∈ gw_L := gw_tab 744 (by decide +kernel) (by decide +kernel)
theorem gk_X8_isDense : gw_K yX8_isDense cX8_isDense 3 (some .boolean) 1 := ⟨gv_744, gv_1, by decide +kernel, by decide +kernel⟩
theorem gv_741 : Cond.methodLink RL 36 yX8_isDense ∈ gw_L := gw_tab 741 (by decide +kernel) (by decide +kernel)
theorem gv_742 : Cond.instanceMethod yX8_isDense ∈ gw_L := gw_tab 742 (by decide +kernel) (by decide +kernel)
theorem gv_743 : Cond.selects RX8 yX8_isDense yX8_isDense ∈ gw_L := gw_tab 743 (by decide +kernel) (by decide +kernel)
theorem gv_751 : Cond.code yX8_isFilter cX8_isFilter 3 (some .boolean) ∈ gw_L := gw_tab 751 (by decide +kernel) (by decide +kernel)
theorem gk_X8_isFilter : gw_K yX8_isFilter cX8_isFilter 3 (some .boolean) 1 := ⟨gv_751, gv_1, by decide +kernel, by decide +kernel⟩
theorem gv_748 : Cond.methodLink RL 39 yX8_isFilter ∈ gw_L := gw_tab 748 (by decide +kernel) (by decide +kernel)
theorem gv_749 : Cond.instanceMethod yX8_isFilter ∈ gw_L := gw_tab 749 (by decide +kernel) (by decide +kernel)
theorem gv_750 : Cond.selects RX8 yX8_isFilter yX8_isFilter ∈ gw_L := gw_tab 750 (by decide +kernel) (by decide +kernel)
theorem gv_766 : Cond.code yX8_cut cX8_cut 2 (some .int) ∈ gw_L := gw_tab 766 (by decide +kernel) (by decide +kernel)
theorem gk_X8_cut : gw_K yX8_cut cX8_cut 2 (some .int) 1 := ⟨gv_766, gv_1, by decide +kernel, by decide +kernel⟩
theorem gv_763 : Cond.methodLink RL 42 yX8_cut ∈ gw_L := gw_tab 763 (by decide +kernel) (by decide +kernel)
theorem gv_764 : Cond.instanceMethod yX8_cut ∈ gw_L := gw_tab 764 (by decide +kernel) (by decide +kernel)
theorem gv_765 : Cond.selects RX8 yX8_cut yX8_cut ∈ gw_L := gw_tab 765 (by decide +kernel) (by decide +kernel)
theorem gv_773 : Cond.code yX8_closure cX8_closure 5 (some .int) ∈ gw_L := gw_tab 773 (by decide +kernel) (by decide +kernel)
theorem gk_X8_closure : gw_K yX8_closure cX8_closure 5 (some .int) 1 := ⟨gv_773, gv_1, by decide +kernel, by decide +kernel⟩
theorem gv_770 : Cond.methodLink RL 46 yX8_closure ∈ gw_L := gw_tab 770 (by decide +kernel) (by decide +kernel)
theorem gv_771 : Cond.instanceMethod yX8_closure ∈ gw_L := gw_tab 771 (by decide +kernel) (by decide +kernel)
theorem gv_772 : Cond.selects RX8 yX8_closure yX8_closure ∈ gw_L := gw_tab 772 (by decide +kernel) (by decide +kernel)
theorem gv_780 : Cond.code yX8_filterOf cX8_filterOf 2 (some .int) ∈ gw_L := gw_tab 780 (by decide +kernel) (by decide +kernel)
theorem gk_X8_filterOf : gw_K yX8_filterOf cX8_filterOf 2 (some .int) 1 := ⟨gv_780, gv_1, by decide +kernel, by decide +kernel⟩
theorem gv_777 : Cond.methodLink RL 49 yX8_filterOf ∈ gw_L := gw_tab 777 (by decide +kernel) (by decide +kernel)
theorem gv_778 : Cond.instanceMethod yX8_filterOf ∈ gw_L := gw_tab 778 (by decide +kernel) (by decide +kernel)
theorem gv_779 : Cond.selects RX8 yX8_filterOf yX8_filterOf ∈ gw_L := gw_tab 779 (by decide +kernel) (by decide +kernel)
theorem gv_792 : Cond.code yX8_name cX8_name 1 (some .int) ∈ gw_L := gw_tab 792 (by decide +kernel) (by decide +kernel)
theorem gk_X8_name : gw_K yX8_name cX8_name 1 (some .int) 0 := ⟨gv_792, gv_1, by decide +kernel, by decide +kernel⟩
theorem gv_789 : Cond.methodLink RL 52 yX8_name ∈ gw_L := gw_tab 789 (by decide +kernel) (by decide +kernel)
theorem gv_790 : Cond.instanceMethod yX8_name ∈ gw_L := gw_tab 790 (by decide +kernel) (by decide +kernel)
theorem gv_791 : Cond.selects RX8 yX8_name yX8_name ∈ gw_L := gw_tab 791 (by decide +kernel) (by decide +kernel)
theorem gv_820 : Cond.code yX8_pair cX8_pair 4 (some .int) ∈ gw_L := gw_tab 820 (by decide +kernel) (by decide +kernel)
theorem gk_X8_pair : gw_K yX8_pair cX8_pair 4 (some .int) 3 := ⟨gv_820, gv_1, by decide +kernel, by decide +kernel⟩
theorem gv_817 : Cond.methodLink RL 55 yX8_pair ∈ gw_L := gw_tab 817 (by decide +kernel) (by decide +kernel)
theorem gv_818 : Cond.instanceMethod yX8_pair ∈ gw_L := gw_tab 818 (by decide +kernel) (by decide +kernel)
theorem gv_819 : Cond.selects RX8 yX8_pair yX8_pair ∈ gw_L := gw_tab 819 (by decide +kernel) (by decide +kernel)
theorem gv_860 : Cond.code yX8_unpair cX8_unpair 2 (some .int) ∈ gw_L := gw_tab 860 (by decide +kernel) (by decide +kernel)
theorem gk_X8_unpair : gw_K yX8_unpair cX8_unpair 2 (some .int) 1 := ⟨gv_860, gv_1, by decide +kernel, by decide +kernel⟩
theorem gv_857 : Cond.methodLink RL 59 yX8_unpair ∈ gw_L := gw_tab 857 (by decide +kernel) (by decide +kernel)
theorem gv_858 : Cond.instanceMethod yX8_unpair ∈ gw_L := gw_tab 858 (by decide +kernel) (by decide +kernel)
theorem gv_859 : Cond.selects RX8 yX8_unpair yX8_unpair ∈ gw_L := gw_tab 859 (by decide +kernel) (by decide +kernel)
theorem gv_872 : Cond.code yX8_rank cX8_rank 2 (some .int) ∈ gw_L := gw_tab 872 (by decide +kernel) (by decide +kernel)
theorem gk_X8_rank : gw_K yX8_rank cX8_rank 2 (some .int) 1 := ⟨gv_872, gv_1, by decide +kernel, by decide +kernel⟩
theorem gv_869 : Cond.methodLink RL 62 yX8_rank ∈ gw_L := gw_tab 869 (by decide +kernel) (by decide +kernel)
theorem gv_870 : Cond.instanceMethod yX8_rank ∈ gw_L := gw_tab 870 (by decide +kernel) (by decide +kernel)
theorem gv_871 : Cond.selects RX8 yX8_rank yX8_rank ∈ gw_L := gw_tab 871 (by decide +kernel) (by decide +kernel)
theorem gv_879 : Cond.code yX8_standard cX8_standard 4 (some .int) ∈ gw_L := gw_tab 879 (by decide +kernel) (by decide +kernel)
theorem gk_X8_standard : gw_K yX8_standard cX8_standard 4 (some .int) 1 := ⟨gv_879, gv_1, by decide +kernel, by decide +kernel⟩
theorem gv_876 : Cond.methodLink RL 65 yX8_standard ∈ gw_L := gw_tab 876 (by decide +kernel) (by decide +kernel)
theorem gv_877 : Cond.instanceMethod yX8_standard ∈ gw_L := gw_tab 877 (by decide +kernel) (by decide +kernel)
theorem gv_878 : Cond.selects RX8 yX8_standard yX8_standard ∈ gw_L := gw_tab 878 (by decide +kernel) (by decide +kernel)
theorem gv_900 : Cond.code yX8_becomes cX8_becomes 3 (some .int) ∈ gw_L := gw_tab 900 (by decide +kernel) (by decide +kernel)
theorem gk_X8_becomes : gw_K yX8_becomes cX8_becomes 3 (some .int) 2 := ⟨gv_900, gv_1, by decide +kernel, by decide +kernel⟩
theorem gv_897 : Cond.methodLink RL 68 yX8_becomes ∈ gw_L := gw_tab 897 (by decide +kernel) (by decide +kernel)
theorem gv_898 : Cond.instanceMethod yX8_becomes ∈ gw_L := gw_tab 898 (by decide +kernel) (by decide +kernel)
theorem gv_899 : Cond.selects RX8 yX8_becomes yX8_becomes ∈ gw_L := gw_tab 899 (by decide +kernel) (by decide +kernel)
theorem gv_907 : Cond.code yX8_valueIn cX8_valueIn 3 (some .int) ∈ gw_L := gw_tab 907 (by decide +kernel) (by decide +kernel)
theorem gk_X8_valueIn : gw_K yX8_valueIn cX8_valueIn 3 (some .int) 2 := ⟨gv_907, gv_1, by decide +kernel, by decide +kernel⟩
theorem gv_904 : Cond.methodLink RL 71 yX8_valueIn ∈ gw_L := gw_tab 904 (by decide +kernel) (by decide +kernel)
theorem gv_905 : Cond.instanceMethod yX8_valueIn ∈ gw_L := gw_tab 905 (by decide +kernel) (by decide +kernel)
theorem gv_906 : Cond.selects RX8 yX8_valueIn yX8_valueIn ∈ gw_L := gw_tab 906 (by decide +kernel) (by decide +kernel)
theorem gv_921 : Cond.code yX8_valueLike cX8_valueLike 3 (some .int) ∈ gw_L := gw_tab 921 (by decide +kernel) (by decide +kernel)
theorem gk_X8_valueLike : gw_K yX8_valueLike cX8_valueLike 3 (some .int) 2 := ⟨gv_921, gv_1, by decide +kernel, by decide +kernel⟩
theorem gv_918 : Cond.methodLink RL 74 yX8_valueLike ∈ gw_L := gw_tab 918 (by decide +kernel) (by decide +kernel)
theorem gv_919 : Cond.instanceMethod yX8_valueLike ∈ gw_L := gw_tab 919 (by decide +kernel) (by decide +kernel)
theorem gv_920 : Cond.selects RX8 yX8_valueLike yX8_valueLike ∈ gw_L := gw_tab 920 (by decide +kernel) (by decide +kernel)
theorem gv_928 : Cond.code yX8_forcesIn cX8_forcesIn 4 (some .boolean) ∈ gw_L := gw_tab 928 (by decide +kernel) (by decide +kernel)
theorem gk_X8_forcesIn : gw_K yX8_forcesIn cX8_forcesIn 4 (some .boolean) 3 := ⟨gv_928, gv_1, by decide +kernel, by decide +kernel⟩
theorem gv_925 : Cond.methodLink RL 77 yX8_forcesIn ∈ gw_L := gw_tab 925 (by decide +kernel) (by decide +kernel)
theorem gv_926 : Cond.instanceMethod yX8_forcesIn ∈ gw_L := gw_tab 926 (by decide +kernel) (by decide +kernel)
theorem gv_927 : Cond.selects RX8 yX8_forcesIn yX8_forcesIn ∈ gw_L := gw_tab 927 (by decide +kernel) (by decide +kernel)
theorem gv_935 : Cond.code yX8_forcesLike cX8_forcesLike 4 (some .boolean) ∈ gw_L := gw_tab 935 (by decide +kernel) (by decide +kernel)
theorem gk_X8_forcesLike : gw_K yX8_forcesLike cX8_forcesLike 4 (some .boolean) 3 := ⟨gv_935, gv_1, by decide +kernel, by decide +kernel⟩
theorem gv_932 : Cond.methodLink RL 81 yX8_forcesLike ∈ gw_L := gw_tab 932 (by decide +kernel) (by decide +kernel)
theorem gv_933 : Cond.instanceMethod yX8_forcesLike ∈ gw_L := gw_tab 933 (by decide +kernel) (by decide +kernel)
theorem gv_934 : Cond.selects RX8 yX8_forcesLike yX8_forcesLike ∈ gw_L := gw_tab 934 (by decide +kernel) (by decide +kernel)
theorem gv_942 : Cond.code yX8_mix cX8_mix 6 (some .int) ∈ gw_L := gw_tab 942 (by decide +kernel) (by decide +kernel)
theorem gk_X8_mix : gw_K yX8_mix cX8_mix 6 (some .int) 4 := ⟨gv_942, gv_1, by decide +kernel, by decide +kernel⟩
theorem gv_939 : Cond.methodLink RL 84 yX8_mix ∈ gw_L := gw_tab 939 (by decide +kernel) (by decide +kernel)
theorem gv_940 : Cond.instanceMethod yX8_mix ∈ gw_L := gw_tab 940 (by decide +kernel) (by decide +kernel)
theorem gv_941 : Cond.selects RX8 yX8_mix yX8_mix ∈ gw_L := gw_tab 941 (by decide +kernel) (by decide +kernel)
theorem gv_969 : Cond.code yX8_atom cX8_atom 4 (some .int) ∈ gw_L := gw_tab 969 (by decide +kernel) (by decide +kernel)
theorem gk_X8_atom : gw_K yX8_atom cX8_atom 4 (some .int) 3 := ⟨gv_969, gv_1, by decide +kernel, by decide +kernel⟩
theorem gv_966 : Cond.methodLink RL 88 yX8_atom ∈ gw_L := gw_tab 966 (by decide +kernel) (by decide +kernel)
theorem gv_967 : Cond.instanceMethod yX8_atom ∈ gw_L := gw_tab 967 (by decide +kernel) (by decide +kernel)
theorem gv_968 : Cond.selects RX8 yX8_atom yX8_atom ∈ gw_L := gw_tab 968 (by decide +kernel) (by decide +kernel)
theorem gv_996 : Cond.code yX8_both cX8_both 6 (some .int) ∈ gw_L := gw_tab 996 (by decide +kernel) (by decide +kernel)
theorem gk_X8_both : gw_K yX8_both cX8_both 6 (some .int) 3 := ⟨gv_996, gv_1, by decide +kernel, by decide +kernel⟩
theorem gv_993 : Cond.methodLink RL 92 yX8_both ∈ gw_L := gw_tab 993 (by decide +kernel) (by decide +kernel)
theorem gv_994 : Cond.instanceMethod yX8_both ∈ gw_L := gw_tab 994 (by decide +kernel) (by decide +kernel)
theorem gv_995 : Cond.selects RX8 yX8_both yX8_both ∈ gw_L := gw_tab 995 (by decide +kernel) (by decide +kernel)
theorem gv_1018 : Cond.code yX8_not cX8_not 3 (some .int) ∈ gw_L := gw_tab 1018 (by decide +kernel) (by decide +kernel)
theorem gk_X8_not : gw_K yX8_not cX8_not 3 (some .int) 1 := ⟨gv_1018, gv_1, by decide +kernel, by decide +kernel⟩
theorem gv_1015 : Cond.methodLink RL 95 yX8_not ∈ gw_L := gw_tab 1015 (by decide +kernel) (by decide +kernel)
theorem gv_1016 : Cond.instanceMethod yX8_not ∈ gw_L := gw_tab 1016 (by decide +kernel) (by decide +kernel)
theorem gv_1017 : Cond.selects RX8 yX8_not yX8_not ∈ gw_L := gw_tab 1017 (by decide +kernel) (by decide +kernel)
theorem gv_1025 : Cond.code yX8_bind cX8_bind 7 (some .int) ∈ gw_L := gw_tab 1025 (by decide +kernel) (by decide +kernel)
theorem gk_X8_bind : gw_K yX8_bind cX8_bind 7 (some .int) 4 := ⟨gv_1025, gv_1, by decide +kernel, by decide +kernel⟩
theorem gv_1022 : Cond.methodLink RL 98 yX8_bind ∈ gw_L := gw_tab 1022 (by decide +kernel) (by decide +kernel)
theorem gv_1023 : Cond.instanceMethod yX8_bind ∈ gw_L := gw_tab 1023 (by decide +kernel) (by decide +kernel)
theorem gv_1024 : Cond.selects RX8 yX8_bind yX8_bind ∈ gw_L := gw_tab 1024 (by decide +kernel) (by decide +kernel)
theorem gv_1033 : Cond.code yX8_free cX8_free 2 (some .int) ∈ gw_L := gw_tab 1033 (by decide +kernel) (by decide +kernel)
theorem gk_X8_free : gw_K yX8_free cX8_free 2 (some .int) 1 := ⟨gv_1033, gv_1, by decide +kernel, by decide +kernel⟩
theorem gv_1030 : Cond.methodLink RL 102 yX8_free ∈ gw_L := gw_tab 1030 (by decide +kernel) (by decide +kernel)
theorem gv_1031 : Cond.instanceMethod yX8_free ∈ gw_L := gw_tab 1031 (by decide +kernel) (by decide +kernel)
theorem gv_1032 : Cond.selects RX8 yX8_free yX8_free ∈ gw_L := gw_tab 1032 (by decide +kernel) (by decide +kernel)
theorem gv_1040 : Cond.code yX8_value cX8_value 2 (some .int) ∈ gw_L := gw_tab 1040 (by decide +kernel) (by decide +kernel)
theorem gk_X8_value : gw_K yX8_value cX8_value 2 (some .int) 1 := ⟨gv_1040, gv_1, by decide +kernel, by decide +kernel⟩
theorem gv_1037 : Cond.methodLink RL 105 yX8_value ∈ gw_L := gw_tab 1037 (by decide +kernel) (by decide +kernel)
theorem gv_1038 : Cond.instanceMethod yX8_value ∈ gw_L := gw_tab 1038 (by decide +kernel) (by decide +kernel)
theorem gv_1039 : Cond.selects RX8 yX8_value yX8_value ∈ gw_L := gw_tab 1039 (by decide +kernel) (by decide +kernel)
theorem gv_1052 : Cond.code yX8_forces cX8_forces 3 (some .boolean) ∈ gw_L := gw_tab 1052 (by decide +kernel) (by decide +kernel)
theorem gk_X8_forces : gw_K yX8_forces cX8_forces 3 (some .boolean) 2 := ⟨gv_1052, gv_1, by decide +kernel, by decide +kernel⟩
theorem gv_1049 : Cond.methodLink RL 108 yX8_forces ∈ gw_L := gw_tab 1049 (by decide +kernel) (by decide +kernel)
theorem gv_1050 : Cond.instanceMethod yX8_forces ∈ gw_L := gw_tab 1050 (by decide +kernel) (by decide +kernel)
theorem gv_1051 : Cond.selects RX8 yX8_forces yX8_forces ∈ gw_L := gw_tab 1051 (by decide +kernel) (by decide +kernel)
theorem gv_1059 : Cond.code yX8_weakly cX8_weakly 3 (some .boolean) ∈ gw_L := gw_tab 1059 (by decide +kernel) (by decide +kernel)
theorem gk_X8_weakly : gw_K yX8_weakly cX8_weakly 3 (some .boolean) 2 := ⟨gv_1059, gv_1, by decide +kernel, by decide +kernel⟩
theorem gv_1056 : Cond.methodLink RL 111 yX8_weakly ∈ gw_L := gw_tab 1056 (by decide +kernel) (by decide +kernel)
theorem gv_1057 : Cond.instanceMethod yX8_weakly ∈ gw_L := gw_tab 1057 (by decide +kernel) (by decide +kernel)
theorem gv_1058 : Cond.selects RX8 yX8_weakly yX8_weakly ∈ gw_L := gw_tab 1058 (by decide +kernel) (by decide +kernel)
theorem gv_1066 : Cond.code yX8_holds cX8_holds 3 (some .boolean) ∈ gw_L := gw_tab 1066 (by decide +kernel) (by decide +kernel)
theorem gk_X8_holds : gw_K yX8_holds cX8_holds 3 (some .boolean) 2 := ⟨gv_1066, gv_1, by decide +kernel, by decide +kernel⟩
theorem gv_1063 : Cond.methodLink RL 114 yX8_holds ∈ gw_L := gw_tab 1063 (by decide +kernel) (by decide +kernel)
theorem gv_1064 : Cond.instanceMethod yX8_holds ∈ gw_L := gw_tab 1064 (by decide +kernel) (by decide +kernel)
theorem gv_1065 : Cond.selects RX8 yX8_holds yX8_holds ∈ gw_L := gw_tab 1065 (by decide +kernel) (by decide +kernel)
theorem gv_1075 : Cond.code yX8_against cX8_against 4 (some .int) ∈ gw_L := gw_tab 1075 (by decide +kernel) (by decide +kernel)
theorem gk_X8_against : gw_K yX8_against cX8_against 4 (some .int) 1 := ⟨gv_1075, gv_1, by decide +kernel, by decide +kernel⟩
theorem gv_1072 : Cond.methodLink RL 117 yX8_against ∈ gw_L := gw_tab 1072 (by decide +kernel) (by decide +kernel)
theorem gv_1073 : Cond.instanceMethod yX8_against ∈ gw_L := gw_tab 1073 (by decide +kernel) (by decide +kernel)
theorem gv_1074 : Cond.selects RX8 yX8_against yX8_against ∈ gw_L := gw_tab 1074 (by decide +kernel) (by decide +kernel)
theorem gv_1071 : Cond.classLink RL 120 "java/util/NoSuchElementException" ∈ gw_L := gw_tab 1071 (by decide +kernel) (by decide +kernel)
theorem gv_1078 : Cond.castable "java/util/NoSuchElementException" "java/util/NoSuchElementException" ∈ gw_L := gw_tab 1078 (by decide +kernel) (by decide +kernel)
theorem gv_1098 : Cond.code yX8_swap cX8_swap 3 (some .boolean) ∈ gw_L := gw_tab 1098 (by decide +kernel) (by decide +kernel)
theorem gk_X8_swap : gw_K yX8_swap cX8_swap 3 (some .boolean) 2 := ⟨gv_1098, gv_1, by decide +kernel, by decide +kernel⟩
theorem gv_1095 : Cond.methodLink RL 122 yX8_swap ∈ gw_L := gw_tab 1095 (by decide +kernel) (by decide +kernel)
theorem gv_1096 : Cond.instanceMethod yX8_swap ∈ gw_L := gw_tab 1096 (by decide +kernel) (by decide +kernel)
theorem gv_1097 : Cond.selects RX8 yX8_swap yX8_swap ∈ gw_L := gw_tab 1097 (by decide +kernel) (by decide +kernel)
theorem gv_1114 : Cond.code yX8_goes cX8_goes 2 (some .int) ∈ gw_L := gw_tab 1114 (by decide +kernel) (by decide +kernel)
theorem gk_X8_goes : gw_K yX8_goes cX8_goes 2 (some .int) 1 := ⟨gv_1114, gv_1, by decide +kernel, by decide +kernel⟩
theorem gv_1111 : Cond.methodLink RL 125 yX8_goes ∈ gw_L := gw_tab 1111 (by decide +kernel) (by decide +kernel)
theorem gv_1112 : Cond.instanceMethod yX8_goes ∈ gw_L := gw_tab 1112 (by decide +kernel) (by decide +kernel)
theorem gv_1113 : Cond.selects RX8 yX8_goes yX8_goes ∈ gw_L := gw_tab 1113 (by decide +kernel) (by decide +kernel)
theorem gv_1122 : Cond.code yX8_isFixed cX8_isFixed 5 (some .boolean) ∈ gw_L := gw_tab 1122 (by decide +kernel) (by decide +kernel)
theorem gk_X8_isFixed : gw_K yX8_isFixed cX8_isFixed 5 (some .boolean) 1 := ⟨gv_1122, gv_1, by decide +kernel, by decide +kernel⟩
theorem gv_1119 : Cond.methodLink RL 128 yX8_isFixed ∈ gw_L := gw_tab 1119 (by decide +kernel) (by decide +kernel)
theorem gv_1120 : Cond.instanceMethod yX8_isFixed ∈ gw_L := gw_tab 1120 (by decide +kernel) (by decide +kernel)
theorem gv_1121 : Cond.selects RX8 yX8_isFixed yX8_isFixed ∈ gw_L := gw_tab 1121 (by decide +kernel) (by decide +kernel)
theorem gv_1130 : Cond.code yX8_lastShare cX8_lastShare 1 (some .float) ∈ gw_L := gw_tab 1130 (by decide +kernel) (by decide +kernel)
theorem gk_X8_lastShare : gw_K yX8_lastShare cX8_lastShare 1 (some .float) 0 := ⟨gv_1130, gv_1, by decide +kernel, by decide +kernel⟩
theorem gv_1127 : Cond.methodLink RL 131 yX8_lastShare ∈ gw_L := gw_tab 1127 (by decide +kernel) (by decide +kernel)
theorem gv_1128 : Cond.instanceMethod yX8_lastShare ∈ gw_L := gw_tab 1128 (by decide +kernel) (by decide +kernel)
theorem gv_1129 : Cond.selects RX8 yX8_lastShare yX8_lastShare ∈ gw_L := gw_tab 1129 (by decide +kernel) (by decide +kernel)
theorem gv_1138 : Cond.code yX8_meanRank cX8_meanRank 3 (some .double) ∈ gw_L := gw_tab 1138 (by decide +kernel) (by decide +kernel)
theorem gk_X8_meanRank : gw_K yX8_meanRank cX8_meanRank 3 (some .double) 0 := ⟨gv_1138, gv_1, by decide +kernel, by decide +kernel⟩
theorem gv_1135 : Cond.methodLink RL 135 yX8_meanRank ∈ gw_L := gw_tab 1135 (by decide +kernel) (by decide +kernel)
theorem gv_1136 : Cond.instanceMethod yX8_meanRank ∈ gw_L := gw_tab 1136 (by decide +kernel) (by decide +kernel)
theorem gv_1137 : Cond.selects RX8 yX8_meanRank yX8_meanRank ∈ gw_L := gw_tab 1137 (by decide +kernel) (by decide +kernel)
def w_condition (f : Nat → Int64) (o : (Int32 ⊕ String)) : Option (Int32 × (Nat → Int64)) := match o with
  | .inl v => some (0, vp_updL f (0 : Int32).toNatClampNeg (v : Int32).toInt64)
  | .inr E => (if E = "java/lang/IllegalStateException" then some (1, f) else none)
set_option maxHeartbeats 4000000 in
set_option maxRecDepth 100000 in
theorem gl_condition (l : Launch) (hfl : l.stackTraces = false) (G : gw_G) (cL : ClassId) (ho : Nat) (f f2 : Nat → Int64) (r : Int32) (σ : gw_S) (o : (Int32 ⊕ String) × gw_S) (h : f_X8_condition σ = some o) (hw : w_condition f o.1 = some (r, f2)) : ∀ sz : Nat, vx_Met l yL_condition (.codeWith yL_condition cL_condition 3 (some .int) [(0, 8, 11, 13)] :: gw_L) { frames := 7, cells := 1, slots := 6 * 1, locals := 102 } (va_Pc [.ref (G.2.1 0), .ref ho] (lo_Pre G .long cL ho (.inl (cL, 1, .inr (.inl f))) sz σ)) (lo_Q G ho r o.2 (.inl (cL, 1, .inr (.inl f2))) sz) (lo_XC G ho sz) 1 (6 * 1) (lo_A G ho sz) := by
  refine gl_en (own := RL) (lv := [(0, .ref (G.2.1 0)), (1, .ref ho)]) (by decide +kernel) rfl (Nat.le_of_ble_eq_true rfl) rfl ?_
  intro p e s m below meth c ls X hr hlocks htab hl hpre
  obtain ⟨hx, hb, hml, hown, hts, hT, hZ⟩ := id X
  obtain ⟨-, hP, hPo, -, -, hKo, hN, hap⟩ := hpre
  have hS : va_S (lo_A G ho s.heap.size) s.heap s.heap [] := va_S.rf
  refine lv_aload_n hx hb dL_condition_0 rfl (lv_at hl 1 rfl) ?_
  refine lv_iconst (v := 0) hx hb dL_condition_1 (by decide) ?_
  refine lv_aload_n hx hb dL_condition_2 rfl (lv_at hl 0 rfl) ?_
  refine vx_calli (gl_xV (C := RX8) X hP hS (fun q z => Or.inl z) (gc_X8_condition l hfl G σ _ h) gk_X8_condition gv_553 ⟨gv_554, gv_555⟩ (va_recv hT.2.1 hP (ci := 10) (q0 := 0) rfl rfl) rfl rfl (Nat.le_of_ble_eq_true rfl) hl.1 ⟨rfl, rfl⟩ ⟨Nat.le_of_ble_eq_true rfl, Nat.le_of_ble_eq_true rfl⟩ ⟨Nat.le_of_ble_eq_true rfl, Nat.le_of_ble_eq_true rfl⟩ dL_condition_3) hS (fun q _ z => Or.inl z) (fun q z => Or.inl z) (fun q _ z => Or.inl z) (fun E ce q9 u t H1 locs1 ht hvm hp hB hz hk hS hcell hcv hcl => ?_) (fun v u t H1 locs1 ht hvm hp hB hz hk hS => ?_)
  · obtain ⟨hB1, hB2⟩ := hB
    subst hB1
    subst ht
    have hPo1 := lo_kept hPo hap hk
    have hw : ((if E = "java/lang/IllegalStateException" then some (1, f) else none) : Option (Int32 × (Nat → Int64))) = some (r, f2) := hw
    by_cases c0 : E = "java/lang/IllegalStateException"
    · have hw1 := (if_pos c0).symm.trans hw
      cases hw1
      subst c0
      refine vx_catch (name := "java/lang/IllegalStateException") hown [] ⟨0, 8, 11, 13⟩ [] htab (fun _ z => nomatch z) (by decide) (by decide) (hts _ gv_552) (hts _ gv_559) hcell hcv hcl ?_
      refine lv_astore_n (lv' := [(2, .ref q9), (0, .ref (G.2.1 0)), (1, .ref ho)]) hx hb dL_condition_11 rfl hl (by decide) rfl (fun ls hl => ?_)
      refine lv_iconst (v := 1) hx hb dL_condition_12 (by decide) ?_
      exact W.widen (Nat.le_of_ble_eq_true rfl) (Nat.le_of_ble_eq_true rfl) (vx_ret (W.iret (v := 1) hx hb hr (fun t2 ht2 _ => ⟨⟨_, (), rfl, rfl, by rw [ht2]; exact hB2, by rw [ht2]; exact hPo1⟩, hS.F ht2⟩) hS.2.2 dL_condition_13 hlocks))
    · have hw := (if_neg c0).symm.trans hw
      exact nomatch hw
  · subst hp
    subst ht
    have hPo1 := lo_kept hPo hap hk
    have hPJ := lo_PJ hB hPo1
    refine lv_i2l hx hb dL_condition_6 rfl ?_
    refine va_last (D := G.1) (x := v.toInt64) hx hb hKo hPJ (lo_DJ hT.1 hap s.heap.size u _) hS 38 0 (n := 1) (i := 0) (f := f) rfl rfl (by unfold vp_in; decide) dL_condition_7 (fun H2 locs2 hP2 _ hS => ?_)
    have hP2 : va_P G.1 vwCl (gw_W G u ++ [(ho, .inl (cL, 1, .inr (.inl (vp_updL f (0 : Int32).toNatClampNeg v.toInt64))))]) H2 := hP2
    have hw1 : some ((0 : Int32), vp_updL f (0 : Int32).toNatClampNeg v.toInt64) = some (r, f2) := hw
    cases hw1
    refine lv_goto (tgt := 14) hx hb dL_condition_8 (by decide) ?_
    refine lv_iconst (v := 0) hx hb dL_condition_14 (by decide) ?_
    exact W.widen (Nat.le_of_ble_eq_true rfl) (Nat.le_of_ble_eq_true rfl) (vx_ret (W.iret (v := 0) hx hb hr (fun t2 ht2 _ => ⟨⟨_, (), rfl, rfl, by rw [ht2]; exact lo_PL hP2, by rw [ht2]; exact lo_PR hP2⟩, hS.F ht2⟩) hS.2.2 dL_condition_15 hlocks))
def w_under (f : Nat → Int64) (o : (Int32 ⊕ String)) : Option (Int32 × (Nat → Int64)) := match o with
  | .inl v => some (0, vp_updL f (0 : Int32).toNatClampNeg (v : Int32).toInt64)
  | .inr E => (if E = "java/lang/IndexOutOfBoundsException" then some (1, f) else (if E = "java/lang/UnsupportedOperationException" then some (2, f) else none))
set_option maxHeartbeats 4000000 in
set_option maxRecDepth 100000 in
theorem gl_under (l : Launch) (hfl : l.stackTraces = false) (G : gw_G) (a0 : Int32) (a1 : Int32) (cL : ClassId) (ho : Nat) (f f2 : Nat → Int64) (r : Int32) (σ : gw_S) (o : (Int32 ⊕ String) × gw_S) (h : f_X8_under a0 a1 σ = some o) (hw : w_under f o.1 = some (r, f2)) : ∀ sz : Nat, vx_Met l yL_under (.codeWith yL_under cL_under 5 (some .int) [(0, 10, 13, 19), (0, 10, 17, 21)] :: gw_L) { frames := 9, cells := 3, slots := 6 * 3, locals := 147 } (va_Pc [.ref (G.2.1 0), .int a0, .int a1, .ref ho] (lo_Pre G .long cL ho (.inl (cL, 1, .inr (.inl f))) sz σ)) (lo_Q G ho r o.2 (.inl (cL, 1, .inr (.inl f2))) sz) (lo_XC G ho sz) 3 (6 * 3) (lo_A G ho sz) := by
  refine gl_en (own := RL) (lv := [(0, .ref (G.2.1 0)), (1, .int a0), (2, .int a1), (3, .ref ho)]) (by decide +kernel) rfl (Nat.le_of_ble_eq_true rfl) rfl ?_
  intro p e s m below meth c ls X hr hlocks htab hl hpre
  obtain ⟨hx, hb, hml, hown, hts, hT, hZ⟩ := id X
  obtain ⟨-, hP, hPo, -, -, hKo, hN, hap⟩ := hpre
  have hS : va_S (lo_A G ho s.heap.size) s.heap s.heap [] := va_S.rf
  refine lv_aload_n hx hb dL_under_0 rfl (lv_at hl 3 rfl) ?_
  refine lv_iconst (v := 0) hx hb dL_under_1 (by decide) ?_
  refine lv_aload_n hx hb dL_under_2 rfl (lv_at hl 0 rfl) ?_
  refine lv_iload_n hx hb dL_under_3 rfl (lv_at hl 1 rfl) ?_
  refine lv_iload_n hx hb dL_under_4 rfl (lv_at hl 2 rfl) ?_
  refine vx_calli (gl_xV (C := RX8) X hP hS (fun q z => Or.inl z) (gc_X8_under l hfl G a0 a1 σ _ h) gk_X8_under gv_637 ⟨gv_638, gv_639⟩ (va_recv hT.2.1 hP (ci := 10) (q0 := 0) rfl rfl) rfl rfl (Nat.le_of_ble_eq_true rfl) hl.1 ⟨rfl, rfl⟩ ⟨Nat.le_of_ble_eq_true rfl, Nat.le_of_ble_eq_true rfl⟩ ⟨Nat.le_of_ble_eq_true rfl, Nat.le_of_ble_eq_true rfl⟩ dL_under_5) hS (fun q _ z => Or.inl z) (fun q z => Or.inl z) (fun q _ z => Or.inl z) (fun E ce q9 u t H1 locs1 ht hvm hp hB hz hk hS hcell hcv hcl => ?_) (fun v u t H1 locs1 ht hvm hp hB hz hk hS => ?_)
  · obtain ⟨hB1, hB2⟩ := hB
    subst hB1
    subst ht
    have hPo1 := lo_kept hPo hap hk
    have hw : ((if E = "java/lang/IndexOutOfBoundsException" then some (1, f) else (if E = "java/lang/UnsupportedOperationException" then some (2, f) else none)) : Option (Int32 × (Nat → Int64))) = some (r, f2) := hw
    by_cases c0 : E = "java/lang/IndexOutOfBoundsException"
    · have hw1 := (if_pos c0).symm.trans hw
      cases hw1
      subst c0
      refine vx_catch (name := "java/lang/IndexOutOfBoundsException") hown [] ⟨0, 10, 13, 19⟩ [⟨0, 10, 17, 21⟩] htab (fun _ z => nomatch z) (by decide) (by decide) (hts _ gv_635) (hts _ gv_655) hcell hcv hcl ?_
      refine lv_astore (lv' := [(4, .ref q9), (0, .ref (G.2.1 0)), (1, .int a0), (2, .int a1), (3, .ref ho)]) hx hb dL_under_13 hl (by decide) rfl (fun ls hl => ?_)
      refine lv_iconst (v := 1) hx hb dL_under_15 (by decide) ?_
      exact W.widen (Nat.le_of_ble_eq_true rfl) (Nat.le_of_ble_eq_true rfl) (vx_ret (W.iret (v := 1) hx hb hr (fun t2 ht2 _ => ⟨⟨_, (), rfl, rfl, by rw [ht2]; exact hB2, by rw [ht2]; exact hPo1⟩, hS.F ht2⟩) hS.2.2 dL_under_16 hlocks))
    · have hw := (if_neg c0).symm.trans hw
      by_cases c1 : E = "java/lang/UnsupportedOperationException"
      · have hw1 := (if_pos c1).symm.trans hw
        cases hw1
        subst c1
        refine vx_catch (name := "java/lang/UnsupportedOperationException") hown [⟨0, 10, 13, 19⟩] ⟨0, 10, 17, 21⟩ [] htab (List.forall_mem_cons.mpr ⟨Or.inr ⟨by decide, _, hts _ gv_635, hN 2 0 _ _ rfl rfl (by decide)⟩, (fun _ z => nomatch z)⟩) (by decide) (by decide) (hts _ gv_636) (hts _ gv_671) hcell hcv hcl ?_
        refine lv_astore (lv' := [(4, .ref q9), (0, .ref (G.2.1 0)), (1, .int a0), (2, .int a1), (3, .ref ho)]) hx hb dL_under_17 hl (by decide) rfl (fun ls hl => ?_)
        refine lv_iconst (v := 2) hx hb dL_under_19 (by decide) ?_
        exact W.widen (Nat.le_of_ble_eq_true rfl) (Nat.le_of_ble_eq_true rfl) (vx_ret (W.iret (v := 2) hx hb hr (fun t2 ht2 _ => ⟨⟨_, (), rfl, rfl, by rw [ht2]; exact hB2, by rw [ht2]; exact hPo1⟩, hS.F ht2⟩) hS.2.2 dL_under_20 hlocks))
      · have hw := (if_neg c1).symm.trans hw
        exact nomatch hw
  · subst hp
    subst ht
    have hPo1 := lo_kept hPo hap hk
    have hPJ := lo_PJ hB hPo1
    refine lv_i2l hx hb dL_under_8 rfl ?_
    refine va_last (D := G.1) (x := v.toInt64) hx hb hKo hPJ (lo_DJ hT.1 hap s.heap.size u _) hS 38 0 (n := 1) (i := 0) (f := f) rfl rfl (by unfold vp_in; decide) dL_under_9 (fun H2 locs2 hP2 _ hS => ?_)
    have hP2 : va_P G.1 vwCl (gw_W G u ++ [(ho, .inl (cL, 1, .inr (.inl (vp_updL f (0 : Int32).toNatClampNeg v.toInt64))))]) H2 := hP2
    have hw1 : some ((0 : Int32), vp_updL f (0 : Int32).toNatClampNeg v.toInt64) = some (r, f2) := hw
    cases hw1
    refine lv_goto (tgt := 21) hx hb dL_under_10 (by decide) ?_
    refine lv_iconst (v := 0) hx hb dL_under_21 (by decide) ?_
    exact W.widen (Nat.le_of_ble_eq_true rfl) (Nat.le_of_ble_eq_true rfl) (vx_ret (W.iret (v := 0) hx hb hr (fun t2 ht2 _ => ⟨⟨_, (), rfl, rfl, by rw [ht2]; exact lo_PL hP2, by rw [ht2]; exact lo_PR hP2⟩, hS.F ht2⟩) hS.2.2 dL_under_22 hlocks))
def w_isBelow (f : Nat → Int64) (o : (Int32 ⊕ String)) : Option (Int32 × (Nat → Int64)) := match o with
  | .inl v => some (0, vp_updL f (0 : Int32).toNatClampNeg (if (v : Int32) = 0 then (0 : Int64) else (1 : Int64)))
  | .inr E => (if E = "java/lang/IndexOutOfBoundsException" then some (1, f) else none)
set_option maxHeartbeats 4000000 in
set_option maxRecDepth 100000 in
theorem gl_isBelow (l : Launch) (hfl : l.stackTraces = false) (G : gw_G) (a0 : Int32) (a1 : Int32) (cL : ClassId) (ho : Nat) (f f2 : Nat → Int64) (r : Int32) (σ : gw_S) (o : (Int32 ⊕ String) × gw_S) (h : f_X8_isBelow a0 a1 σ = some o) (hw : w_isBelow f o.1 = some (r, f2)) : ∀ sz : Nat, vx_Met l yL_isBelow (.codeWith yL_isBelow cL_isBelow 5 (some .int) [(0, 17, 20, 19)] :: gw_L) { frames := 9, cells := 2, slots := 6 * 2, locals := 147 } (va_Pc [.ref (G.2.1 0), .int a0, .int a1, .ref ho] (lo_Pre G .long cL ho (.inl (cL, 1, .inr (.inl f))) sz σ)) (lo_Q G ho r o.2 (.inl (cL, 1, .inr (.inl f2))) sz) (lo_XC G ho sz) 2 (6 * 2) (lo_A G ho sz) := by
  refine gl_en (own := RL) (lv := [(0, .ref (G.2.1 0)), (1, .int a0), (2, .int a1), (3, .ref ho)]) (by decide +kernel) rfl (Nat.le_of_ble_eq_true rfl) rfl ?_
  intro p e s m below meth c ls X hr hlocks htab hl hpre
  obtain ⟨hx, hb, hml, hown, hts, hT, hZ⟩ := id X
  obtain ⟨-, hP, hPo, -, -, hKo, hN, hap⟩ := hpre
  have hS : va_S (lo_A G ho s.heap.size) s.heap s.heap [] := va_S.rf
  refine lv_aload_n hx hb dL_isBelow_0 rfl (lv_at hl 3 rfl) ?_
  refine lv_iconst (v := 0) hx hb dL_isBelow_1 (by decide) ?_
  refine lv_aload_n hx hb dL_isBelow_2 rfl (lv_at hl 0 rfl) ?_
  refine lv_iload_n hx hb dL_isBelow_3 rfl (lv_at hl 1 rfl) ?_
  refine lv_iload_n hx hb dL_isBelow_4 rfl (lv_at hl 2 rfl) ?_
  refine vx_calli (gl_xV (C := RX8) X hP hS (fun q z => Or.inl z) (gc_X8_isBelow l hfl G a0 a1 σ _ h) gk_X8_isBelow gv_698 ⟨gv_699, gv_700⟩ (va_recv hT.2.1 hP (ci := 10) (q0 := 0) rfl rfl) rfl rfl (Nat.le_of_ble_eq_true rfl) hl.1 ⟨rfl, rfl⟩ ⟨Nat.le_of_ble_eq_true rfl, Nat.le_of_ble_eq_true rfl⟩ ⟨Nat.le_of_ble_eq_true rfl, Nat.le_of_ble_eq_true rfl⟩ dL_isBelow_5) hS (fun q _ z => Or.inl z) (fun q z => Or.inl z) (fun q _ z => Or.inl z) (fun E ce q9 u t H1 locs1 ht hvm hp hB hz hk hS hcell hcv hcl => ?_) (fun v u t H1 locs1 ht hvm hp hB hz hk hS => ?_)
  · obtain ⟨hB1, hB2⟩ := hB
    subst hB1
    subst ht
    have hPo1 := lo_kept hPo hap hk
    have hw : ((if E = "java/lang/IndexOutOfBoundsException" then some (1, f) else none) : Option (Int32 × (Nat → Int64))) = some (r, f2) := hw
    by_cases c0 : E = "java/lang/IndexOutOfBoundsException"
    · have hw1 := (if_pos c0).symm.trans hw
      cases hw1
      subst c0
      refine vx_catch (name := "java/lang/IndexOutOfBoundsException") hown [] ⟨0, 17, 20, 19⟩ [] htab (fun _ z => nomatch z) (by decide) (by decide) (hts _ gv_635) (hts _ gv_655) hcell hcv hcl ?_
      refine lv_astore (lv' := [(4, .ref q9), (0, .ref (G.2.1 0)), (1, .int a0), (2, .int a1), (3, .ref ho)]) hx hb dL_isBelow_20 hl (by decide) rfl (fun ls hl => ?_)
      refine lv_iconst (v := 1) hx hb dL_isBelow_22 (by decide) ?_
      exact W.widen (Nat.le_of_ble_eq_true rfl) (Nat.le_of_ble_eq_true rfl) (vx_ret (W.iret (v := 1) hx hb hr (fun t2 ht2 _ => ⟨⟨_, (), rfl, rfl, by rw [ht2]; exact hB2, by rw [ht2]; exact hPo1⟩, hS.F ht2⟩) hS.2.2 dL_isBelow_23 hlocks))
    · have hw := (if_neg c0).symm.trans hw
      exact nomatch hw
  · obtain ⟨hp, -⟩ := hp
    subst hp
    subst ht
    have hPo1 := lo_kept hPo hap hk
    have hPJ := lo_PJ hB hPo1
    refine lv_if_eq (tgt := 15) hx hb dL_isBelow_8 (by decide) (fun c => ?_) (fun c => ?_)
    · refine lv_lconst (v := 0) hx hb dL_isBelow_15 (by decide) ?_
      refine va_last (D := G.1) (x := (0 : Int64)) hx hb hKo hPJ (lo_DJ hT.1 hap s.heap.size u _) hS 38 0 (n := 1) (i := 0) (f := f) rfl rfl (by unfold vp_in; decide) dL_isBelow_16 (fun H2 locs2 hP2 _ hS => ?_)
      have hP2 : va_P G.1 vwCl (gw_W G u ++ [(ho, .inl (cL, 1, .inr (.inl (vp_updL f (0 : Int32).toNatClampNeg (0 : Int64)))))]) H2 := hP2
      have hw1 : some ((0 : Int32), vp_updL f (0 : Int32).toNatClampNeg (0 : Int64)) = some (r, f2) := by rw [show (0 : Int64) = (if v = 0 then (0 : Int64) else (1 : Int64)) from (if_pos c).symm]; exact hw
      cases hw1
      refine lv_goto (tgt := 24) hx hb dL_isBelow_17 (by decide) ?_
      refine lv_iconst (v := 0) hx hb dL_isBelow_24 (by decide) ?_
      exact W.widen (Nat.le_of_ble_eq_true rfl) (Nat.le_of_ble_eq_true rfl) (vx_ret (W.iret (v := 0) hx hb hr (fun t2 ht2 _ => ⟨⟨_, (), rfl, rfl, by rw [ht2]; exact lo_PL hP2, by rw [ht2]; exact lo_PR hP2⟩, hS.F ht2⟩) hS.2.2 dL_isBelow_25 hlocks))
    · refine lv_lconst (v := 1) hx hb dL_isBelow_11 (by decide) ?_
      refine lv_goto (tgt := 16) hx hb dL_isBelow_12 (by decide) ?_
      refine va_last (D := G.1) (x := (1 : Int64)) hx hb hKo hPJ (lo_DJ hT.1 hap s.heap.size u _) hS 38 0 (n := 1) (i := 0) (f := f) rfl rfl (by unfold vp_in; decide) dL_isBelow_16 (fun H2 locs2 hP2 _ hS => ?_)
      have hP2 : va_P G.1 vwCl (gw_W G u ++ [(ho, .inl (cL, 1, .inr (.inl (vp_updL f (0 : Int32).toNatClampNeg (1 : Int64)))))]) H2 := hP2
      have hw1 : some ((0 : Int32), vp_updL f (0 : Int32).toNatClampNeg (1 : Int64)) = some (r, f2) := by rw [show (1 : Int64) = (if v = 0 then (0 : Int64) else (1 : Int64)) from (if_neg c).symm]; exact hw
      cases hw1
      refine lv_goto (tgt := 24) hx hb dL_isBelow_17 (by decide) ?_
      refine lv_iconst (v := 0) hx hb dL_isBelow_24 (by decide) ?_
      exact W.widen (Nat.le_of_ble_eq_true rfl) (Nat.le_of_ble_eq_true rfl) (vx_ret (W.iret (v := 0) hx hb hr (fun t2 ht2 _ => ⟨⟨_, (), rfl, rfl, by rw [ht2]; exact lo_PL hP2, by rw [ht2]; exact lo_PR hP2⟩, hS.F ht2⟩) hS.2.2 dL_isBelow_25 hlocks))
def w_fit (f : Nat → Int64) (o : (Int32 ⊕ String)) : Option (Int32 × (Nat → Int64)) := match o with
  | .inl v => some (0, vp_updL f (0 : Int32).toNatClampNeg (if (v : Int32) = 0 then (0 : Int64) else (1 : Int64)))
  | .inr E => (if E = "java/lang/IndexOutOfBoundsException" then some (1, f) else none)
set_option maxHeartbeats 4000000 in
set_option maxRecDepth 100000 in
theorem gl_fit (l : Launch) (hfl : l.stackTraces = false) (G : gw_G) (a0 : Int32) (a1 : Int32) (cL : ClassId) (ho : Nat) (f f2 : Nat → Int64) (r : Int32) (σ : gw_S) (o : (Int32 ⊕ String) × gw_S) (h : f_X8_fit a0 a1 σ = some o) (hw : w_fit f o.1 = some (r, f2)) : ∀ sz : Nat, vx_Met l yL_fit (.codeWith yL_fit cL_fit 5 (some .int) [(0, 17, 20, 19)] :: gw_L) { frames := 9, cells := 2, slots := 6 * 2, locals := 147 } (va_Pc [.ref (G.2.1 0), .int a0, .int a1, .ref ho] (lo_Pre G .long cL ho (.inl (cL, 1, .inr (.inl f))) sz σ)) (lo_Q G ho r o.2 (.inl (cL, 1, .inr (.inl f2))) sz) (lo_XC G ho sz) 2 (6 * 2) (lo_A G ho sz) := by
  refine gl_en (own := RL) (lv := [(0, .ref (G.2.1 0)), (1, .int a0), (2, .int a1), (3, .ref ho)]) (by decide +kernel) rfl (Nat.le_of_ble_eq_true rfl) rfl ?_
  intro p e s m below meth c ls X hr hlocks htab hl hpre
  obtain ⟨hx, hb, hml, hown, hts, hT, hZ⟩ := id X
  obtain ⟨-, hP, hPo, -, -, hKo, hN, hap⟩ := hpre
  have hS : va_S (lo_A G ho s.heap.size) s.heap s.heap [] := va_S.rf
  refine lv_aload_n hx hb dL_fit_0 rfl (lv_at hl 3 rfl) ?_
  refine lv_iconst (v := 0) hx hb dL_fit_1 (by decide) ?_
  refine lv_aload_n hx hb dL_fit_2 rfl (lv_at hl 0 rfl) ?_
  refine lv_iload_n hx hb dL_fit_3 rfl (lv_at hl 1 rfl) ?_
  refine lv_iload_n hx hb dL_fit_4 rfl (lv_at hl 2 rfl) ?_
  refine vx_calli (gl_xV (C := RX8) X hP hS (fun q z => Or.inl z) (gc_X8_fit l hfl G a0 a1 σ _ h) gk_X8_fit gv_705 ⟨gv_706, gv_707⟩ (va_recv hT.2.1 hP (ci := 10) (q0 := 0) rfl rfl) rfl rfl (Nat.le_of_ble_eq_true rfl) hl.1 ⟨rfl, rfl⟩ ⟨Nat.le_of_ble_eq_true rfl, Nat.le_of_ble_eq_true rfl⟩ ⟨Nat.le_of_ble_eq_true rfl, Nat.le_of_ble_eq_true rfl⟩ dL_fit_5) hS (fun q _ z => Or.inl z) (fun q z => Or.inl z) (fun q _ z => Or.inl z) (fun E ce q9 u t H1 locs1 ht hvm hp hB hz hk hS hcell hcv hcl => ?_) (fun v u t H1 locs1 ht hvm hp hB hz hk hS => ?_)
  · obtain ⟨hB1, hB2⟩ := hB
    subst hB1
    subst ht
    have hPo1 := lo_kept hPo hap hk
    have hw : ((if E = "java/lang/IndexOutOfBoundsException" then some (1, f) else none) : Option (Int32 × (Nat → Int64))) = some (r, f2) := hw
    by_cases c0 : E = "java/lang/IndexOutOfBoundsException"
    · have hw1 := (if_pos c0).symm.trans hw
      cases hw1
      subst c0
      refine vx_catch (name := "java/lang/IndexOutOfBoundsException") hown [] ⟨0, 17, 20, 19⟩ [] htab (fun _ z => nomatch z) (by decide) (by decide) (hts _ gv_635) (hts _ gv_655) hcell hcv hcl ?_
      refine lv_astore (lv' := [(4, .ref q9), (0, .ref (G.2.1 0)), (1, .int a0), (2, .int a1), (3, .ref ho)]) hx hb dL_fit_20 hl (by decide) rfl (fun ls hl => ?_)
      refine lv_iconst (v := 1) hx hb dL_fit_22 (by decide) ?_
      exact W.widen (Nat.le_of_ble_eq_true rfl) (Nat.le_of_ble_eq_true rfl) (vx_ret (W.iret (v := 1) hx hb hr (fun t2 ht2 _ => ⟨⟨_, (), rfl, rfl, by rw [ht2]; exact hB2, by rw [ht2]; exact hPo1⟩, hS.F ht2⟩) hS.2.2 dL_fit_23 hlocks))
    · have hw := (if_neg c0).symm.trans hw
      exact nomatch hw
  · obtain ⟨hp, -⟩ := hp
    subst hp
    subst ht
    have hPo1 := lo_kept hPo hap hk
    have hPJ := lo_PJ hB hPo1
    refine lv_if_eq (tgt := 15) hx hb dL_fit_8 (by decide) (fun c => ?_) (fun c => ?_)
    · refine lv_lconst (v := 0) hx hb dL_fit_15 (by decide) ?_
      refine va_last (D := G.1) (x := (0 : Int64)) hx hb hKo hPJ (lo_DJ hT.1 hap s.heap.size u _) hS 38 0 (n := 1) (i := 0) (f := f) rfl rfl (by unfold vp_in; decide) dL_fit_16 (fun H2 locs2 hP2 _ hS => ?_)
      have hP2 : va_P G.1 vwCl (gw_W G u ++ [(ho, .inl (cL, 1, .inr (.inl (vp_updL f (0 : Int32).toNatClampNeg (0 : Int64)))))]) H2 := hP2
      have hw1 : some ((0 : Int32), vp_updL f (0 : Int32).toNatClampNeg (0 : Int64)) = some (r, f2) := by rw [show (0 : Int64) = (if v = 0 then (0 : Int64) else (1 : Int64)) from (if_pos c).symm]; exact hw
      cases hw1
      refine lv_goto (tgt := 24) hx hb dL_fit_17 (by decide) ?_
      refine lv_iconst (v := 0) hx hb dL_fit_24 (by decide) ?_
      exact W.widen (Nat.le_of_ble_eq_true rfl) (Nat.le_of_ble_eq_true rfl) (vx_ret (W.iret (v := 0) hx hb hr (fun t2 ht2 _ => ⟨⟨_, (), rfl, rfl, by rw [ht2]; exact lo_PL hP2, by rw [ht2]; exact lo_PR hP2⟩, hS.F ht2⟩) hS.2.2 dL_fit_25 hlocks))
    · refine lv_lconst (v := 1) hx hb dL_fit_11 (by decide) ?_
      refine lv_goto (tgt := 16) hx hb dL_fit_12 (by decide) ?_
      refine va_last (D := G.1) (x := (1 : Int64)) hx hb hKo hPJ (lo_DJ hT.1 hap s.heap.size u _) hS 38 0 (n := 1) (i := 0) (f := f) rfl rfl (by unfold vp_in; decide) dL_fit_16 (fun H2 locs2 hP2 _ hS => ?_)
      have hP2 : va_P G.1 vwCl (gw_W G u ++ [(ho, .inl (cL, 1, .inr (.inl (vp_updL f (0 : Int32).toNatClampNeg (1 : Int64)))))]) H2 := hP2
      have hw1 : some ((0 : Int32), vp_updL f (0 : Int32).toNatClampNeg (1 : Int64)) = some (r, f2) := by rw [show (1 : Int64) = (if v = 0 then (0 : Int64) else (1 : Int64)) from (if_neg c).symm]; exact hw
      cases hw1
      refine lv_goto (tgt := 24) hx hb dL_fit_17 (by decide) ?_
      refine lv_iconst (v := 0) hx hb dL_fit_24 (by decide) ?_
      exact W.widen (Nat.le_of_ble_eq_true rfl) (Nat.le_of_ble_eq_true rfl) (vx_ret (W.iret (v := 0) hx hb hr (fun t2 ht2 _ => ⟨⟨_, (), rfl, rfl, by rw [ht2]; exact lo_PL hP2, by rw [ht2]; exact lo_PR hP2⟩, hS.F ht2⟩) hS.2.2 dL_fit_25 hlocks))
def w_isAntichain (f : Nat → Int64) (o : (Int32 ⊕ String)) : Option (Int32 × (Nat → Int64)) := match o with
  | .inl v => some (0, vp_updL f (0 : Int32).toNatClampNeg (if (v : Int32) = 0 then (0 : Int64) else (1 : Int64)))
  | .inr E => (if E = "java/lang/IllegalArgumentException" then some (1, f) else none)
set_option maxHeartbeats 4000000 in
set_option maxRecDepth 100000 in
theorem gl_isAntichain (l : Launch) (hfl : l.stackTraces = false) (G : gw_G) (a0 : Int32) (cL : ClassId) (ho : Nat) (f f2 : Nat → Int64) (r : Int32) (σ : gw_S) (o : (Int32 ⊕ String) × gw_S) (h : f_X8_isAntichain a0 σ = some o) (hw : w_isAntichain f o.1 = some (r, f2)) : ∀ sz : Nat, vx_Met l yL_isAntichain (.codeWith yL_isAntichain cL_isAntichain 4 (some .int) [(0, 16, 19, 34)] :: gw_L) { frames := 8, cells := 1, slots := 6 * 1, locals := 126 } (va_Pc [.ref (G.2.1 0), .int a0, .ref ho] (lo_Pre G .long cL ho (.inl (cL, 1, .inr (.inl f))) sz σ)) (lo_Q G ho r o.2 (.inl (cL, 1, .inr (.inl f2))) sz) (lo_XC G ho sz) 1 (6 * 1) (lo_A G ho sz) := by
  refine gl_en (own := RL) (lv := [(0, .ref (G.2.1 0)), (1, .int a0), (2, .ref ho)]) (by decide +kernel) rfl (Nat.le_of_ble_eq_true rfl) rfl ?_
  intro p e s m below meth c ls X hr hlocks htab hl hpre
  obtain ⟨hx, hb, hml, hown, hts, hT, hZ⟩ := id X
  obtain ⟨-, hP, hPo, -, -, hKo, hN, hap⟩ := hpre
  have hS : va_S (lo_A G ho s.heap.size) s.heap s.heap [] := va_S.rf
  refine lv_aload_n hx hb dL_isAntichain_0 rfl (lv_at hl 2 rfl) ?_
  refine lv_iconst (v := 0) hx hb dL_isAntichain_1 (by decide) ?_
  refine lv_aload_n hx hb dL_isAntichain_2 rfl (lv_at hl 0 rfl) ?_
  refine lv_iload_n hx hb dL_isAntichain_3 rfl (lv_at hl 1 rfl) ?_
  refine vx_calli (gl_xV (C := RX8) X hP hS (fun q z => Or.inl z) (gc_X8_isAntichain l hfl G a0 σ _ h) gk_X8_isAntichain gv_713 ⟨gv_714, gv_715⟩ (va_recv hT.2.1 hP (ci := 10) (q0 := 0) rfl rfl) rfl rfl (Nat.le_of_ble_eq_true rfl) hl.1 ⟨rfl, rfl⟩ ⟨Nat.le_of_ble_eq_true rfl, Nat.le_of_ble_eq_true rfl⟩ ⟨Nat.le_of_ble_eq_true rfl, Nat.le_of_ble_eq_true rfl⟩ dL_isAntichain_4) hS (fun q _ z => Or.inl z) (fun q z => Or.inl z) (fun q _ z => Or.inl z) (fun E ce q9 u t H1 locs1 ht hvm hp hB hz hk hS hcell hcv hcl => ?_) (fun v u t H1 locs1 ht hvm hp hB hz hk hS => ?_)
  · obtain ⟨hB1, hB2⟩ := hB
    subst hB1
    subst ht
    have hPo1 := lo_kept hPo hap hk
    have hw : ((if E = "java/lang/IllegalArgumentException" then some (1, f) else none) : Option (Int32 × (Nat → Int64))) = some (r, f2) := hw
    by_cases c0 : E = "java/lang/IllegalArgumentException"
    · have hw1 := (if_pos c0).symm.trans hw
      cases hw1
      subst c0
      refine vx_catch (name := "java/lang/IllegalArgumentException") hown [] ⟨0, 16, 19, 34⟩ [] htab (fun _ z => nomatch z) (by decide) (by decide) (hts _ gv_712) (hts _ gv_724) hcell hcv hcl ?_
      refine lv_astore_n (lv' := [(3, .ref q9), (0, .ref (G.2.1 0)), (1, .int a0), (2, .ref ho)]) hx hb dL_isAntichain_19 rfl hl (by decide) rfl (fun ls hl => ?_)
      refine lv_iconst (v := 1) hx hb dL_isAntichain_20 (by decide) ?_
      exact W.widen (Nat.le_of_ble_eq_true rfl) (Nat.le_of_ble_eq_true rfl) (vx_ret (W.iret (v := 1) hx hb hr (fun t2 ht2 _ => ⟨⟨_, (), rfl, rfl, by rw [ht2]; exact hB2, by rw [ht2]; exact hPo1⟩, hS.F ht2⟩) hS.2.2 dL_isAntichain_21 hlocks))
    · have hw := (if_neg c0).symm.trans hw
      exact nomatch hw
  · obtain ⟨hp, -⟩ := hp
    subst hp
    subst ht
    have hPo1 := lo_kept hPo hap hk
    have hPJ := lo_PJ hB hPo1
    refine lv_if_eq (tgt := 14) hx hb dL_isAntichain_7 (by decide) (fun c => ?_) (fun c => ?_)
    · refine lv_lconst (v := 0) hx hb dL_isAntichain_14 (by decide) ?_
      refine va_last (D := G.1) (x := (0 : Int64)) hx hb hKo hPJ (lo_DJ hT.1 hap s.heap.size u _) hS 38 0 (n := 1) (i := 0) (f := f) rfl rfl (by unfold vp_in; decide) dL_isAntichain_15 (fun H2 locs2 hP2 _ hS => ?_)
      have hP2 : va_P G.1 vwCl (gw_W G u ++ [(ho, .inl (cL, 1, .inr (.inl (vp_updL f (0 : Int32).toNatClampNeg (0 : Int64)))))]) H2 := hP2
      have hw1 : some ((0 : Int32), vp_updL f (0 : Int32).toNatClampNeg (0 : Int64)) = some (r, f2) := by rw [show (0 : Int64) = (if v = 0 then (0 : Int64) else (1 : Int64)) from (if_pos c).symm]; exact hw
      cases hw1
      refine lv_goto (tgt := 22) hx hb dL_isAntichain_16 (by decide) ?_
      refine lv_iconst (v := 0) hx hb dL_isAntichain_22 (by decide) ?_
      exact W.widen (Nat.le_of_ble_eq_true rfl) (Nat.le_of_ble_eq_true rfl) (vx_ret (W.iret (v := 0) hx hb hr (fun t2 ht2 _ => ⟨⟨_, (), rfl, rfl, by rw [ht2]; exact lo_PL hP2, by rw [ht2]; exact lo_PR hP2⟩, hS.F ht2⟩) hS.2.2 dL_isAntichain_23 hlocks))
    · refine lv_lconst (v := 1) hx hb dL_isAntichain_10 (by decide) ?_
      refine lv_goto (tgt := 15) hx hb dL_isAntichain_11 (by decide) ?_
      refine va_last (D := G.1) (x := (1 : Int64)) hx hb hKo hPJ (lo_DJ hT.1 hap s.heap.size u _) hS 38 0 (n := 1) (i := 0) (f := f) rfl rfl (by unfold vp_in; decide) dL_isAntichain_15 (fun H2 locs2 hP2 _ hS => ?_)
      have hP2 : va_P G.1 vwCl (gw_W G u ++ [(ho, .inl (cL, 1, .inr (.inl (vp_updL f (0 : Int32).toNatClampNeg (1 : Int64)))))]) H2 := hP2
      have hw1 : some ((0 : Int32), vp_updL f (0 : Int32).toNatClampNeg (1 : Int64)) = some (r, f2) := by rw [show (1 : Int64) = (if v = 0 then (0 : Int64) else (1 : Int64)) from (if_neg c).symm]; exact hw
      cases hw1
      refine lv_goto (tgt := 22) hx hb dL_isAntichain_16 (by decide) ?_
      refine lv_iconst (v := 0) hx hb dL_isAntichain_22 (by decide) ?_
      exact W.widen (Nat.le_of_ble_eq_true rfl) (Nat.le_of_ble_eq_true rfl) (vx_ret (W.iret (v := 0) hx hb hr (fun t2 ht2 _ => ⟨⟨_, (), rfl, rfl, by rw [ht2]; exact lo_PL hP2, by rw [ht2]; exact lo_PR hP2⟩, hS.F ht2⟩) hS.2.2 dL_isAntichain_23 hlocks))
def w_isDense (f : Nat → Int64) (o : (Int32 ⊕ String)) : Option (Int32 × (Nat → Int64)) := match o with
  | .inl v => some (0, vp_updL f (0 : Int32).toNatClampNeg (if (v : Int32) = 0 then (0 : Int64) else (1 : Int64)))
  | .inr E => (if E = "java/lang/IllegalArgumentException" then some (1, f) else none)
set_option maxHeartbeats 4000000 in
set_option maxRecDepth 100000 in
theorem gl_isDense (l : Launch) (hfl : l.stackTraces = false) (G : gw_G) (a0 : Int32) (cL : ClassId) (ho : Nat) (f f2 : Nat → Int64) (r : Int32) (σ : gw_S) (o : (Int32 ⊕ String) × gw_S) (h : f_X8_isDense a0 σ = some o) (hw : w_isDense f o.1 = some (r, f2)) : ∀ sz : Nat, vx_Met l yL_isDense (.codeWith yL_isDense cL_isDense 4 (some .int) [(0, 16, 19, 34)] :: gw_L) { frames := 8, cells := 1, slots := 6 * 1, locals := 125 } (va_Pc [.ref (G.2.1 0), .int a0, .ref ho] (lo_Pre G .long cL ho (.inl (cL, 1, .inr (.inl f))) sz σ)) (lo_Q G ho r o.2 (.inl (cL, 1, .inr (.inl f2))) sz) (lo_XC G ho sz) 1 (6 * 1) (lo_A G ho sz) := by
  refine gl_en (own := RL) (lv := [(0, .ref (G.2.1 0)), (1, .int a0), (2, .ref ho)]) (by decide +kernel) rfl (Nat.le_of_ble_eq_true rfl) rfl ?_
  intro p e s m below meth c ls X hr hlocks htab hl hpre
  obtain ⟨hx, hb, hml, hown, hts, hT, hZ⟩ := id X
  obtain ⟨-, hP, hPo, -, -, hKo, hN, hap⟩ := hpre
  have hS : va_S (lo_A G ho s.heap.size) s.heap s.heap [] := va_S.rf
  refine lv_aload_n hx hb dL_isDense_0 rfl (lv_at hl 2 rfl) ?_
  refine lv_iconst (v := 0) hx hb dL_isDense_1 (by decide) ?_
  refine lv_aload_n hx hb dL_isDense_2 rfl (lv_at hl 0 rfl) ?_
  refine lv_iload_n hx hb dL_isDense_3 rfl (lv_at hl 1 rfl) ?_
  refine vx_calli (gl_xV (C := RX8) X hP hS (fun q z => Or.inl z) (gc_X8_isDense l hfl G a0 σ _ h) gk_X8_isDense gv_741 ⟨gv_742, gv_743⟩ (va_recv hT.2.1 hP (ci := 10) (q0 := 0) rfl rfl) rfl rfl (Nat.le_of_ble_eq_true rfl) hl.1 ⟨rfl, rfl⟩ ⟨Nat.le_of_ble_eq_true rfl, Nat.le_of_ble_eq_true rfl⟩ ⟨Nat.le_of_ble_eq_true rfl, Nat.le_of_ble_eq_true rfl⟩ dL_isDense_4) hS (fun q _ z => Or.inl z) (fun q z => Or.inl z) (fun q _ z => Or.inl z) (fun E ce q9 u t H1 locs1 ht hvm hp hB hz hk hS hcell hcv hcl => ?_) (fun v u t H1 locs1 ht hvm hp hB hz hk hS => ?_)
  · obtain ⟨hB1, hB2⟩ := hB
    subst hB1
    subst ht
    have hPo1 := lo_kept hPo hap hk
    have hw : ((if E = "java/lang/IllegalArgumentException" then some (1, f) else none) : Option (Int32 × (Nat → Int64))) = some (r, f2) := hw
    by_cases c0 : E = "java/lang/IllegalArgumentException"
    · have hw1 := (if_pos c0).symm.trans hw
      cases hw1
      subst c0
      refine vx_catch (name := "java/lang/IllegalArgumentException") hown [] ⟨0, 16, 19, 34⟩ [] htab (fun _ z => nomatch z) (by decide) (by decide) (hts _ gv_712) (hts _ gv_724) hcell hcv hcl ?_
      refine lv_astore_n (lv' := [(3, .ref q9), (0, .ref (G.2.1 0)), (1, .int a0), (2, .ref ho)]) hx hb dL_isDense_19 rfl hl (by decide) rfl (fun ls hl => ?_)
      refine lv_iconst (v := 1) hx hb dL_isDense_20 (by decide) ?_
      exact W.widen (Nat.le_of_ble_eq_true rfl) (Nat.le_of_ble_eq_true rfl) (vx_ret (W.iret (v := 1) hx hb hr (fun t2 ht2 _ => ⟨⟨_, (), rfl, rfl, by rw [ht2]; exact hB2, by rw [ht2]; exact hPo1⟩, hS.F ht2⟩) hS.2.2 dL_isDense_21 hlocks))
    · have hw := (if_neg c0).symm.trans hw
      exact nomatch hw
  · obtain ⟨hp, -⟩ := hp
    subst hp
    subst ht
    have hPo1 := lo_kept hPo hap hk
    have hPJ := lo_PJ hB hPo1
    refine lv_if_eq (tgt := 14) hx hb dL_isDense_7 (by decide) (fun c => ?_) (fun c => ?_)
    · refine lv_lconst (v := 0) hx hb dL_isDense_14 (by decide) ?_
      refine va_last (D := G.1) (x := (0 : Int64)) hx hb hKo hPJ (lo_DJ hT.1 hap s.heap.size u _) hS 38 0 (n := 1) (i := 0) (f := f) rfl rfl (by unfold vp_in; decide) dL_isDense_15 (fun H2 locs2 hP2 _ hS => ?_)
      have hP2 : va_P G.1 vwCl (gw_W G u ++ [(ho, .inl (cL, 1, .inr (.inl (vp_updL f (0 : Int32).toNatClampNeg (0 : Int64)))))]) H2 := hP2
      have hw1 : some ((0 : Int32), vp_updL f (0 : Int32).toNatClampNeg (0 : Int64)) = some (r, f2) := by rw [show (0 : Int64) = (if v = 0 then (0 : Int64) else (1 : Int64)) from (if_pos c).symm]; exact hw
      cases hw1
      refine lv_goto (tgt := 22) hx hb dL_isDense_16 (by decide) ?_
      refine lv_iconst (v := 0) hx hb dL_isDense_22 (by decide) ?_
      exact W.widen (Nat.le_of_ble_eq_true rfl) (Nat.le_of_ble_eq_true rfl) (vx_ret (W.iret (v := 0) hx hb hr (fun t2 ht2 _ => ⟨⟨_, (), rfl, rfl, by rw [ht2]; exact lo_PL hP2, by rw [ht2]; exact lo_PR hP2⟩, hS.F ht2⟩) hS.2.2 dL_isDense_23 hlocks))
    · refine lv_lconst (v := 1) hx hb dL_isDense_10 (by decide) ?_
      refine lv_goto (tgt := 15) hx hb dL_isDense_11 (by decide) ?_
      refine va_last (D := G.1) (x := (1 : Int64)) hx hb hKo hPJ (lo_DJ hT.1 hap s.heap.size u _) hS 38 0 (n := 1) (i := 0) (f := f) rfl rfl (by unfold vp_in; decide) dL_isDense_15 (fun H2 locs2 hP2 _ hS => ?_)
      have hP2 : va_P G.1 vwCl (gw_W G u ++ [(ho, .inl (cL, 1, .inr (.inl (vp_updL f (0 : Int32).toNatClampNeg (1 : Int64)))))]) H2 := hP2
      have hw1 : some ((0 : Int32), vp_updL f (0 : Int32).toNatClampNeg (1 : Int64)) = some (r, f2) := by rw [show (1 : Int64) = (if v = 0 then (0 : Int64) else (1 : Int64)) from (if_neg c).symm]; exact hw
      cases hw1
      refine lv_goto (tgt := 22) hx hb dL_isDense_16 (by decide) ?_
      refine lv_iconst (v := 0) hx hb dL_isDense_22 (by decide) ?_
      exact W.widen (Nat.le_of_ble_eq_true rfl) (Nat.le_of_ble_eq_true rfl) (vx_ret (W.iret (v := 0) hx hb hr (fun t2 ht2 _ => ⟨⟨_, (), rfl, rfl, by rw [ht2]; exact lo_PL hP2, by rw [ht2]; exact lo_PR hP2⟩, hS.F ht2⟩) hS.2.2 dL_isDense_23 hlocks))
def w_isFilter (f : Nat → Int64) (o : (Int32 ⊕ String)) : Option (Int32 × (Nat → Int64)) := match o with
  | .inl v => some (0, vp_updL f (0 : Int32).toNatClampNeg (if (v : Int32) = 0 then (0 : Int64) else (1 : Int64)))
  | .inr E => (if E = "java/lang/IllegalArgumentException" then some (1, f) else none)
set_option maxHeartbeats 4000000 in
set_option maxRecDepth 100000 in
theorem gl_isFilter (l : Launch) (hfl : l.stackTraces = false) (G : gw_G) (a0 : Int32) (cL : ClassId) (ho : Nat) (f f2 : Nat → Int64) (r : Int32) (σ : gw_S) (o : (Int32 ⊕ String) × gw_S) (h : f_X8_isFilter a0 σ = some o) (hw : w_isFilter f o.1 = some (r, f2)) : ∀ sz : Nat, vx_Met l yL_isFilter (.codeWith yL_isFilter cL_isFilter 4 (some .int) [(0, 16, 19, 34)] :: gw_L) { frames := 8, cells := 1, slots := 6 * 1, locals := 125 } (va_Pc [.ref (G.2.1 0), .int a0, .ref ho] (lo_Pre G .long cL ho (.inl (cL, 1, .inr (.inl f))) sz σ)) (lo_Q G ho r o.2 (.inl (cL, 1, .inr (.inl f2))) sz) (lo_XC G ho sz) 1 (6 * 1) (lo_A G ho sz) := by
  refine gl_en (own := RL) (lv := [(0, .ref (G.2.1 0)), (1, .int a0), (2, .ref ho)]) (by decide +kernel) rfl (Nat.le_of_ble_eq_true rfl) rfl ?_
  intro p e s m below meth c ls X hr hlocks htab hl hpre
  obtain ⟨hx, hb, hml, hown, hts, hT, hZ⟩ := id X
  obtain ⟨-, hP, hPo, -, -, hKo, hN, hap⟩ := hpre
  have hS : va_S (lo_A G ho s.heap.size) s.heap s.heap [] := va_S.rf
  refine lv_aload_n hx hb dL_isFilter_0 rfl (lv_at hl 2 rfl) ?_
  refine lv_iconst (v := 0) hx hb dL_isFilter_1 (by decide) ?_
  refine lv_aload_n hx hb dL_isFilter_2 rfl (lv_at hl 0 rfl) ?_
  refine lv_iload_n hx hb dL_isFilter_3 rfl (lv_at hl 1 rfl) ?_
  refine vx_calli (gl_xV (C := RX8) X hP hS (fun q z => Or.inl z) (gc_X8_isFilter l hfl G a0 σ _ h) gk_X8_isFilter gv_748 ⟨gv_749, gv_750⟩ (va_recv hT.2.1 hP (ci := 10) (q0 := 0) rfl rfl) rfl rfl (Nat.le_of_ble_eq_true rfl) hl.1 ⟨rfl, rfl⟩ ⟨Nat.le_of_ble_eq_true rfl, Nat.le_of_ble_eq_true rfl⟩ ⟨Nat.le_of_ble_eq_true rfl, Nat.le_of_ble_eq_true rfl⟩ dL_isFilter_4) hS (fun q _ z => Or.inl z) (fun q z => Or.inl z) (fun q _ z => Or.inl z) (fun E ce q9 u t H1 locs1 ht hvm hp hB hz hk hS hcell hcv hcl => ?_) (fun v u t H1 locs1 ht hvm hp hB hz hk hS => ?_)
  · obtain ⟨hB1, hB2⟩ := hB
    subst hB1
    subst ht
    have hPo1 := lo_kept hPo hap hk
    have hw : ((if E = "java/lang/IllegalArgumentException" then some (1, f) else none) : Option (Int32 × (Nat → Int64))) = some (r, f2) := hw
    by_cases c0 : E = "java/lang/IllegalArgumentException"
    · have hw1 := (if_pos c0).symm.trans hw
      cases hw1
      subst c0
      refine vx_catch (name := "java/lang/IllegalArgumentException") hown [] ⟨0, 16, 19, 34⟩ [] htab (fun _ z => nomatch z) (by decide) (by decide) (hts _ gv_712) (hts _ gv_724) hcell hcv hcl ?_
      refine lv_astore_n (lv' := [(3, .ref q9), (0, .ref (G.2.1 0)), (1, .int a0), (2, .ref ho)]) hx hb dL_isFilter_19 rfl hl (by decide) rfl (fun ls hl => ?_)
      refine lv_iconst (v := 1) hx hb dL_isFilter_20 (by decide) ?_
      exact W.widen (Nat.le_of_ble_eq_true rfl) (Nat.le_of_ble_eq_true rfl) (vx_ret (W.iret (v := 1) hx hb hr (fun t2 ht2 _ => ⟨⟨_, (), rfl, rfl, by rw [ht2]; exact hB2, by rw [ht2]; exact hPo1⟩, hS.F ht2⟩) hS.2.2 dL_isFilter_21 hlocks))
    · have hw := (if_neg c0).symm.trans hw
      exact nomatch hw
  · obtain ⟨hp, -⟩ := hp
    subst hp
    subst ht
    have hPo1 := lo_kept hPo hap hk
    have hPJ := lo_PJ hB hPo1
    refine lv_if_eq (tgt := 14) hx hb dL_isFilter_7 (by decide) (fun c => ?_) (fun c => ?_)
    · refine lv_lconst (v := 0) hx hb dL_isFilter_14 (by decide) ?_
      refine va_last (D := G.1) (x := (0 : Int64)) hx hb hKo hPJ (lo_DJ hT.1 hap s.heap.size u _) hS 38 0 (n := 1) (i := 0) (f := f) rfl rfl (by unfold vp_in; decide) dL_isFilter_15 (fun H2 locs2 hP2 _ hS => ?_)
      have hP2 : va_P G.1 vwCl (gw_W G u ++ [(ho, .inl (cL, 1, .inr (.inl (vp_updL f (0 : Int32).toNatClampNeg (0 : Int64)))))]) H2 := hP2
      have hw1 : some ((0 : Int32), vp_updL f (0 : Int32).toNatClampNeg (0 : Int64)) = some (r, f2) := by rw [show (0 : Int64) = (if v = 0 then (0 : Int64) else (1 : Int64)) from (if_pos c).symm]; exact hw
      cases hw1
      refine lv_goto (tgt := 22) hx hb dL_isFilter_16 (by decide) ?_
      refine lv_iconst (v := 0) hx hb dL_isFilter_22 (by decide) ?_
      exact W.widen (Nat.le_of_ble_eq_true rfl) (Nat.le_of_ble_eq_true rfl) (vx_ret (W.iret (v := 0) hx hb hr (fun t2 ht2 _ => ⟨⟨_, (), rfl, rfl, by rw [ht2]; exact lo_PL hP2, by rw [ht2]; exact lo_PR hP2⟩, hS.F ht2⟩) hS.2.2 dL_isFilter_23 hlocks))
    · refine lv_lconst (v := 1) hx hb dL_isFilter_10 (by decide) ?_
      refine lv_goto (tgt := 15) hx hb dL_isFilter_11 (by decide) ?_
      refine va_last (D := G.1) (x := (1 : Int64)) hx hb hKo hPJ (lo_DJ hT.1 hap s.heap.size u _) hS 38 0 (n := 1) (i := 0) (f := f) rfl rfl (by unfold vp_in; decide) dL_isFilter_15 (fun H2 locs2 hP2 _ hS => ?_)
      have hP2 : va_P G.1 vwCl (gw_W G u ++ [(ho, .inl (cL, 1, .inr (.inl (vp_updL f (0 : Int32).toNatClampNeg (1 : Int64)))))]) H2 := hP2
      have hw1 : some ((0 : Int32), vp_updL f (0 : Int32).toNatClampNeg (1 : Int64)) = some (r, f2) := by rw [show (1 : Int64) = (if v = 0 then (0 : Int64) else (1 : Int64)) from (if_neg c).symm]; exact hw
      cases hw1
      refine lv_goto (tgt := 22) hx hb dL_isFilter_16 (by decide) ?_
      refine lv_iconst (v := 0) hx hb dL_isFilter_22 (by decide) ?_
      exact W.widen (Nat.le_of_ble_eq_true rfl) (Nat.le_of_ble_eq_true rfl) (vx_ret (W.iret (v := 0) hx hb hr (fun t2 ht2 _ => ⟨⟨_, (), rfl, rfl, by rw [ht2]; exact lo_PL hP2, by rw [ht2]; exact lo_PR hP2⟩, hS.F ht2⟩) hS.2.2 dL_isFilter_23 hlocks))
def w_cut (f : Nat → Int64) (o : (Int32 ⊕ String)) : Option (Int32 × (Nat → Int64)) := match o with
  | .inl v => some (0, vp_updL f (0 : Int32).toNatClampNeg (v : Int32).toInt64)
  | .inr E => (if E = "java/lang/IndexOutOfBoundsException" then some (1, f) else none)
set_option maxHeartbeats 4000000 in
set_option maxRecDepth 100000 in
theorem gl_cut (l : Launch) (hfl : l.stackTraces = false) (G : gw_G) (a0 : Int32) (cL : ClassId) (ho : Nat) (f f2 : Nat → Int64) (r : Int32) (σ : gw_S) (o : (Int32 ⊕ String) × gw_S) (h : f_X8_cut a0 σ = some o) (hw : w_cut f o.1 = some (r, f2)) : ∀ sz : Nat, vx_Met l yL_cut (.codeWith yL_cut cL_cut 4 (some .int) [(0, 9, 12, 19)] :: gw_L) { frames := 8, cells := 1, slots := 6 * 1, locals := 124 } (va_Pc [.ref (G.2.1 0), .int a0, .ref ho] (lo_Pre G .long cL ho (.inl (cL, 1, .inr (.inl f))) sz σ)) (lo_Q G ho r o.2 (.inl (cL, 1, .inr (.inl f2))) sz) (lo_XC G ho sz) 1 (6 * 1) (lo_A G ho sz) := by
  refine gl_en (own := RL) (lv := [(0, .ref (G.2.1 0)), (1, .int a0), (2, .ref ho)]) (by decide +kernel) rfl (Nat.le_of_ble_eq_true rfl) rfl ?_
  intro p e s m below meth c ls X hr hlocks htab hl hpre
  obtain ⟨hx, hb, hml, hown, hts, hT, hZ⟩ := id X
  obtain ⟨-, hP, hPo, -, -, hKo, hN, hap⟩ := hpre
  have hS : va_S (lo_A G ho s.heap.size) s.heap s.heap [] := va_S.rf
  refine lv_aload_n hx hb dL_cut_0 rfl (lv_at hl 2 rfl) ?_
  refine lv_iconst (v := 0) hx hb dL_cut_1 (by decide) ?_
  refine lv_aload_n hx hb dL_cut_2 rfl (lv_at hl 0 rfl) ?_
  refine lv_iload_n hx hb dL_cut_3 rfl (lv_at hl 1 rfl) ?_
  refine vx_calli (gl_xV (C := RX8) X hP hS (fun q z => Or.inl z) (gc_X8_cut l hfl G a0 σ _ h) gk_X8_cut gv_763 ⟨gv_764, gv_765⟩ (va_recv hT.2.1 hP (ci := 10) (q0 := 0) rfl rfl) rfl rfl (Nat.le_of_ble_eq_true rfl) hl.1 ⟨rfl, rfl⟩ ⟨Nat.le_of_ble_eq_true rfl, Nat.le_of_ble_eq_true rfl⟩ ⟨Nat.le_of_ble_eq_true rfl, Nat.le_of_ble_eq_true rfl⟩ dL_cut_4) hS (fun q _ z => Or.inl z) (fun q z => Or.inl z) (fun q _ z => Or.inl z) (fun E ce q9 u t H1 locs1 ht hvm hp hB hz hk hS hcell hcv hcl => ?_) (fun v u t H1 locs1 ht hvm hp hB hz hk hS => ?_)
  · obtain ⟨hB1, hB2⟩ := hB
    subst hB1
    subst ht
    have hPo1 := lo_kept hPo hap hk
    have hw : ((if E = "java/lang/IndexOutOfBoundsException" then some (1, f) else none) : Option (Int32 × (Nat → Int64))) = some (r, f2) := hw
    by_cases c0 : E = "java/lang/IndexOutOfBoundsException"
    · have hw1 := (if_pos c0).symm.trans hw
      cases hw1
      subst c0
      refine vx_catch (name := "java/lang/IndexOutOfBoundsException") hown [] ⟨0, 9, 12, 19⟩ [] htab (fun _ z => nomatch z) (by decide) (by decide) (hts _ gv_635) (hts _ gv_655) hcell hcv hcl ?_
      refine lv_astore_n (lv' := [(3, .ref q9), (0, .ref (G.2.1 0)), (1, .int a0), (2, .ref ho)]) hx hb dL_cut_12 rfl hl (by decide) rfl (fun ls hl => ?_)
      refine lv_iconst (v := 1) hx hb dL_cut_13 (by decide) ?_
      exact W.widen (Nat.le_of_ble_eq_true rfl) (Nat.le_of_ble_eq_true rfl) (vx_ret (W.iret (v := 1) hx hb hr (fun t2 ht2 _ => ⟨⟨_, (), rfl, rfl, by rw [ht2]; exact hB2, by rw [ht2]; exact hPo1⟩, hS.F ht2⟩) hS.2.2 dL_cut_14 hlocks))
    · have hw := (if_neg c0).symm.trans hw
      exact nomatch hw
  · subst hp
    subst ht
    have hPo1 := lo_kept hPo hap hk
    have hPJ := lo_PJ hB hPo1
    refine lv_i2l hx hb dL_cut_7 rfl ?_
    refine va_last (D := G.1) (x := v.toInt64) hx hb hKo hPJ (lo_DJ hT.1 hap s.heap.size u _) hS 38 0 (n := 1) (i := 0) (f := f) rfl rfl (by unfold vp_in; decide) dL_cut_8 (fun H2 locs2 hP2 _ hS => ?_)
    have hP2 : va_P G.1 vwCl (gw_W G u ++ [(ho, .inl (cL, 1, .inr (.inl (vp_updL f (0 : Int32).toNatClampNeg v.toInt64))))]) H2 := hP2
    have hw1 : some ((0 : Int32), vp_updL f (0 : Int32).toNatClampNeg v.toInt64) = some (r, f2) := hw
    cases hw1
    refine lv_goto (tgt := 15) hx hb dL_cut_9 (by decide) ?_
    refine lv_iconst (v := 0) hx hb dL_cut_15 (by decide) ?_
    exact W.widen (Nat.le_of_ble_eq_true rfl) (Nat.le_of_ble_eq_true rfl) (vx_ret (W.iret (v := 0) hx hb hr (fun t2 ht2 _ => ⟨⟨_, (), rfl, rfl, by rw [ht2]; exact lo_PL hP2, by rw [ht2]; exact lo_PR hP2⟩, hS.F ht2⟩) hS.2.2 dL_cut_16 hlocks))
def w_closure (f : Nat → Int64) (o : (Int32 ⊕ String)) : Option (Int32 × (Nat → Int64)) := match o with
  | .inl v => some (0, vp_updL f (0 : Int32).toNatClampNeg (v : Int32).toInt64)
  | .inr E => (if E = "java/lang/IllegalArgumentException" then some (1, f) else none)
set_option maxHeartbeats 4000000 in
set_option maxRecDepth 100000 in
theorem gl_closure (l : Launch) (hfl : l.stackTraces = false) (G : gw_G) (a0 : Int32) (cL : ClassId) (ho : Nat) (f f2 : Nat → Int64) (r : Int32) (σ : gw_S) (o : (Int32 ⊕ String) × gw_S) (h : f_X8_closure a0 σ = some o) (hw : w_closure f o.1 = some (r, f2)) : ∀ sz : Nat, vx_Met l yL_closure (.codeWith yL_closure cL_closure 4 (some .int) [(0, 9, 12, 34)] :: gw_L) { frames := 8, cells := 1, slots := 6 * 1, locals := 127 } (va_Pc [.ref (G.2.1 0), .int a0, .ref ho] (lo_Pre G .long cL ho (.inl (cL, 1, .inr (.inl f))) sz σ)) (lo_Q G ho r o.2 (.inl (cL, 1, .inr (.inl f2))) sz) (lo_XC G ho sz) 1 (6 * 1) (lo_A G ho sz) := by
  refine gl_en (own := RL) (lv := [(0, .ref (G.2.1 0)), (1, .int a0), (2, .ref ho)]) (by decide +kernel) rfl (Nat.le_of_ble_eq_true rfl) rfl ?_
  intro p e s m below meth c ls X hr hlocks htab hl hpre
  obtain ⟨hx, hb, hml, hown, hts, hT, hZ⟩ := id X
  obtain ⟨-, hP, hPo, -, -, hKo, hN, hap⟩ := hpre
  have hS : va_S (lo_A G ho s.heap.size) s.heap s.heap [] := va_S.rf
  refine lv_aload_n hx hb dL_closure_0 rfl (lv_at hl 2 rfl) ?_
  refine lv_iconst (v := 0) hx hb dL_closure_1 (by decide) ?_
  refine lv_aload_n hx hb dL_closure_2 rfl (lv_at hl 0 rfl) ?_
  refine lv_iload_n hx hb dL_closure_3 rfl (lv_at hl 1 rfl) ?_
  refine vx_calli (gl_xV (C := RX8) X hP hS (fun q z => Or.inl z) (gc_X8_closure l hfl G a0 σ _ h) gk_X8_closure gv_770 ⟨gv_771, gv_772⟩ (va_recv hT.2.1 hP (ci := 10) (q0 := 0) rfl rfl) rfl rfl (Nat.le_of_ble_eq_true rfl) hl.1 ⟨rfl, rfl⟩ ⟨Nat.le_of_ble_eq_true rfl, Nat.le_of_ble_eq_true rfl⟩ ⟨Nat.le_of_ble_eq_true rfl, Nat.le_of_ble_eq_true rfl⟩ dL_closure_4) hS (fun q _ z => Or.inl z) (fun q z => Or.inl z) (fun q _ z => Or.inl z) (fun E ce q9 u t H1 locs1 ht hvm hp hB hz hk hS hcell hcv hcl => ?_) (fun v u t H1 locs1 ht hvm hp hB hz hk hS => ?_)
  · obtain ⟨hB1, hB2⟩ := hB
    subst hB1
    subst ht
    have hPo1 := lo_kept hPo hap hk
    have hw : ((if E = "java/lang/IllegalArgumentException" then some (1, f) else none) : Option (Int32 × (Nat → Int64))) = some (r, f2) := hw
    by_cases c0 : E = "java/lang/IllegalArgumentException"
    · have hw1 := (if_pos c0).symm.trans hw
      cases hw1
      subst c0
      refine vx_catch (name := "java/lang/IllegalArgumentException") hown [] ⟨0, 9, 12, 34⟩ [] htab (fun _ z => nomatch z) (by decide) (by decide) (hts _ gv_712) (hts _ gv_724) hcell hcv hcl ?_
      refine lv_astore_n (lv' := [(3, .ref q9), (0, .ref (G.2.1 0)), (1, .int a0), (2, .ref ho)]) hx hb dL_closure_12 rfl hl (by decide) rfl (fun ls hl => ?_)
      refine lv_iconst (v := 1) hx hb dL_closure_13 (by decide) ?_
      exact W.widen (Nat.le_of_ble_eq_true rfl) (Nat.le_of_ble_eq_true rfl) (vx_ret (W.iret (v := 1) hx hb hr (fun t2 ht2 _ => ⟨⟨_, (), rfl, rfl, by rw [ht2]; exact hB2, by rw [ht2]; exact hPo1⟩, hS.F ht2⟩) hS.2.2 dL_closure_14 hlocks))
    · have hw := (if_neg c0).symm.trans hw
      exact nomatch hw
  · subst hp
    subst ht
    have hPo1 := lo_kept hPo hap hk
    have hPJ := lo_PJ hB hPo1
    refine lv_i2l hx hb dL_closure_7 rfl ?_
    refine va_last (D := G.1) (x := v.toInt64) hx hb hKo hPJ (lo_DJ hT.1 hap s.heap.size u _) hS 38 0 (n := 1) (i := 0) (f := f) rfl rfl (by unfold vp_in; decide) dL_closure_8 (fun H2 locs2 hP2 _ hS => ?_)
    have hP2 : va_P G.1 vwCl (gw_W G u ++ [(ho, .inl (cL, 1, .inr (.inl (vp_updL f (0 : Int32).toNatClampNeg v.toInt64))))]) H2 := hP2
    have hw1 : some ((0 : Int32), vp_updL f (0 : Int32).toNatClampNeg v.toInt64) = some (r, f2) := hw
    cases hw1
    refine lv_goto (tgt := 15) hx hb dL_closure_9 (by decide) ?_
    refine lv_iconst (v := 0) hx hb dL_closure_15 (by decide) ?_
    exact W.widen (Nat.le_of_ble_eq_true rfl) (Nat.le_of_ble_eq_true rfl) (vx_ret (W.iret (v := 0) hx hb hr (fun t2 ht2 _ => ⟨⟨_, (), rfl, rfl, by rw [ht2]; exact lo_PL hP2, by rw [ht2]; exact lo_PR hP2⟩, hS.F ht2⟩) hS.2.2 dL_closure_16 hlocks))
def w_filterOf (f : Nat → Int64) (o : (Int32 ⊕ String)) : Option (Int32 × (Nat → Int64)) := match o with
  | .inl v => some (0, vp_updL f (0 : Int32).toNatClampNeg (v : Int32).toInt64)
  | .inr E => (if E = "java/lang/IllegalArgumentException" then some (1, f) else none)
set_option maxHeartbeats 4000000 in
set_option maxRecDepth 100000 in
theorem gl_filterOf (l : Launch) (hfl : l.stackTraces = false) (G : gw_G) (a0 : Int32) (cL : ClassId) (ho : Nat) (f f2 : Nat → Int64) (r : Int32) (σ : gw_S) (o : (Int32 ⊕ String) × gw_S) (h : f_X8_filterOf a0 σ = some o) (hw : w_filterOf f o.1 = some (r, f2)) : ∀ sz : Nat, vx_Met l yL_filterOf (.codeWith yL_filterOf cL_filterOf 4 (some .int) [(0, 9, 12, 34)] :: gw_L) { frames := 8, cells := 1, slots := 6 * 1, locals := 124 } (va_Pc [.ref (G.2.1 0), .int a0, .ref ho] (lo_Pre G .long cL ho (.inl (cL, 1, .inr (.inl f))) sz σ)) (lo_Q G ho r o.2 (.inl (cL, 1, .inr (.inl f2))) sz) (lo_XC G ho sz) 1 (6 * 1) (lo_A G ho sz) := by
  refine gl_en (own := RL) (lv := [(0, .ref (G.2.1 0)), (1, .int a0), (2, .ref ho)]) (by decide +kernel) rfl (Nat.le_of_ble_eq_true rfl) rfl ?_
  intro p e s m below meth c ls X hr hlocks htab hl hpre
  obtain ⟨hx, hb, hml, hown, hts, hT, hZ⟩ := id X
  obtain ⟨-, hP, hPo, -, -, hKo, hN, hap⟩ := hpre
  have hS : va_S (lo_A G ho s.heap.size) s.heap s.heap [] := va_S.rf
  refine lv_aload_n hx hb dL_filterOf_0 rfl (lv_at hl 2 rfl) ?_
  refine lv_iconst (v := 0) hx hb dL_filterOf_1 (by decide) ?_
  refine lv_aload_n hx hb dL_filterOf_2 rfl (lv_at hl 0 rfl) ?_
  refine lv_iload_n hx hb dL_filterOf_3 rfl (lv_at hl 1 rfl) ?_
  refine vx_calli (gl_xV (C := RX8) X hP hS (fun q z => Or.inl z) (gc_X8_filterOf l hfl G a0 σ _ h) gk_X8_filterOf gv_777 ⟨gv_778, gv_779⟩ (va_recv hT.2.1 hP (ci := 10) (q0 := 0) rfl rfl) rfl rfl (Nat.le_of_ble_eq_true rfl) hl.1 ⟨rfl, rfl⟩ ⟨Nat.le_of_ble_eq_true rfl, Nat.le_of_ble_eq_true rfl⟩ ⟨Nat.le_of_ble_eq_true rfl, Nat.le_of_ble_eq_true rfl⟩ dL_filterOf_4) hS (fun q _ z => Or.inl z) (fun q z => Or.inl z) (fun q _ z => Or.inl z) (fun E ce q9 u t H1 locs1 ht hvm hp hB hz hk hS hcell hcv hcl => ?_) (fun v u t H1 locs1 ht hvm hp hB hz hk hS => ?_)
  · obtain ⟨hB1, hB2⟩ := hB
    subst hB1
    subst ht
    have hPo1 := lo_kept hPo hap hk
    have hw : ((if E = "java/lang/IllegalArgumentException" then some (1, f) else none) : Option (Int32 × (Nat → Int64))) = some (r, f2) := hw
    by_cases c0 : E = "java/lang/IllegalArgumentException"
    · have hw1 := (if_pos c0).symm.trans hw
      cases hw1
      subst c0
      refine vx_catch (name := "java/lang/IllegalArgumentException") hown [] ⟨0, 9, 12, 34⟩ [] htab (fun _ z => nomatch z) (by decide) (by decide) (hts _ gv_712) (hts _ gv_724) hcell hcv hcl ?_
      refine lv_astore_n (lv' := [(3, .ref q9), (0, .ref (G.2.1 0)), (1, .int a0), (2, .ref ho)]) hx hb dL_filterOf_12 rfl hl (by decide) rfl (fun ls hl => ?_)
      refine lv_iconst (v := 1) hx hb dL_filterOf_13 (by decide) ?_
      exact W.widen (Nat.le_of_ble_eq_true rfl) (Nat.le_of_ble_eq_true rfl) (vx_ret (W.iret (v := 1) hx hb hr (fun t2 ht2 _ => ⟨⟨_, (), rfl, rfl, by rw [ht2]; exact hB2, by rw [ht2]; exact hPo1⟩, hS.F ht2⟩) hS.2.2 dL_filterOf_14 hlocks))
    · have hw := (if_neg c0).symm.trans hw
      exact nomatch hw
  · subst hp
    subst ht
    have hPo1 := lo_kept hPo hap hk
    have hPJ := lo_PJ hB hPo1
    refine lv_i2l hx hb dL_filterOf_7 rfl ?_
    refine va_last (D := G.1) (x := v.toInt64) hx hb hKo hPJ (lo_DJ hT.1 hap s.heap.size u _) hS 38 0 (n := 1) (i := 0) (f := f) rfl rfl (by unfold vp_in; decide) dL_filterOf_8 (fun H2 locs2 hP2 _ hS => ?_)
    have hP2 : va_P G.1 vwCl (gw_W G u ++ [(ho, .inl (cL, 1, .inr (.inl (vp_updL f (0 : Int32).toNatClampNeg v.toInt64))))]) H2 := hP2
    have hw1 : some ((0 : Int32), vp_updL f (0 : Int32).toNatClampNeg v.toInt64) = some (r, f2) := hw
    cases hw1
    refine lv_goto (tgt := 15) hx hb dL_filterOf_9 (by decide) ?_
    refine lv_iconst (v := 0) hx hb dL_filterOf_15 (by decide) ?_
    exact W.widen (Nat.le_of_ble_eq_true rfl) (Nat.le_of_ble_eq_true rfl) (vx_ret (W.iret (v := 0) hx hb hr (fun t2 ht2 _ => ⟨⟨_, (), rfl, rfl, by rw [ht2]; exact lo_PL hP2, by rw [ht2]; exact lo_PR hP2⟩, hS.F ht2⟩) hS.2.2 dL_filterOf_16 hlocks))
def w_name (f : Nat → Int64) (o : (Int32 ⊕ String)) : Option (Int32 × (Nat → Int64)) := match o with
  | .inl v => some (0, vp_updL f (0 : Int32).toNatClampNeg (v : Int32).toInt64)
  | .inr E => (if E = "java/lang/IllegalStateException" then some (1, f) else none)
set_option maxHeartbeats 4000000 in
set_option maxRecDepth 100000 in
theorem gl_name (l : Launch) (hfl : l.stackTraces = false) (G : gw_G) (cL : ClassId) (ho : Nat) (f f2 : Nat → Int64) (r : Int32) (σ : gw_S) (o : (Int32 ⊕ String) × gw_S) (h : f_X8_name σ = some o) (hw : w_name f o.1 = some (r, f2)) : ∀ sz : Nat, vx_Met l yL_name (.codeWith yL_name cL_name 3 (some .int) [(0, 8, 11, 13)] :: gw_L) { frames := 8, cells := 1, slots := 6 * 1, locals := 130 } (va_Pc [.ref (G.2.1 0), .ref ho] (lo_Pre G .long cL ho (.inl (cL, 1, .inr (.inl f))) sz σ)) (lo_Q G ho r o.2 (.inl (cL, 1, .inr (.inl f2))) sz) (lo_XC G ho sz) 1 (6 * 1) (lo_A G ho sz) := by
  refine gl_en (own := RL) (lv := [(0, .ref (G.2.1 0)), (1, .ref ho)]) (by decide +kernel) rfl (Nat.le_of_ble_eq_true rfl) rfl ?_
  intro p e s m below meth c ls X hr hlocks htab hl hpre
  obtain ⟨hx, hb, hml, hown, hts, hT, hZ⟩ := id X
  obtain ⟨-, hP, hPo, -, -, hKo, hN, hap⟩ := hpre
  have hS : va_S (lo_A G ho s.heap.size) s.heap s.heap [] := va_S.rf
  refine lv_aload_n hx hb dL_name_0 rfl (lv_at hl 1 rfl) ?_
  refine lv_iconst (v := 0) hx hb dL_name_1 (by decide) ?_
  refine lv_aload_n hx hb dL_name_2 rfl (lv_at hl 0 rfl) ?_
  refine vx_calli (gl_xV (C := RX8) X hP hS (fun q z => Or.inl z) (gc_X8_name l hfl G σ _ h) gk_X8_name gv_789 ⟨gv_790, gv_791⟩ (va_recv hT.2.1 hP (ci := 10) (q0 := 0) rfl rfl) rfl rfl (Nat.le_of_ble_eq_true rfl) hl.1 ⟨rfl, rfl⟩ ⟨Nat.le_of_ble_eq_true rfl, Nat.le_of_ble_eq_true rfl⟩ ⟨Nat.le_of_ble_eq_true rfl, Nat.le_of_ble_eq_true rfl⟩ dL_name_3) hS (fun q _ z => Or.inl z) (fun q z => Or.inl z) (fun q _ z => Or.inl z) (fun E ce q9 u t H1 locs1 ht hvm hp hB hz hk hS hcell hcv hcl => ?_) (fun v u t H1 locs1 ht hvm hp hB hz hk hS => ?_)
  · obtain ⟨hB1, hB2⟩ := hB
    subst hB1
    subst ht
    have hPo1 := lo_kept hPo hap hk
    have hw : ((if E = "java/lang/IllegalStateException" then some (1, f) else none) : Option (Int32 × (Nat → Int64))) = some (r, f2) := hw
    by_cases c0 : E = "java/lang/IllegalStateException"
    · have hw1 := (if_pos c0).symm.trans hw
      cases hw1
      subst c0
      refine vx_catch (name := "java/lang/IllegalStateException") hown [] ⟨0, 8, 11, 13⟩ [] htab (fun _ z => nomatch z) (by decide) (by decide) (hts _ gv_552) (hts _ gv_559) hcell hcv hcl ?_
      refine lv_astore_n (lv' := [(2, .ref q9), (0, .ref (G.2.1 0)), (1, .ref ho)]) hx hb dL_name_11 rfl hl (by decide) rfl (fun ls hl => ?_)
      refine lv_iconst (v := 1) hx hb dL_name_12 (by decide) ?_
      exact W.widen (Nat.le_of_ble_eq_true rfl) (Nat.le_of_ble_eq_true rfl) (vx_ret (W.iret (v := 1) hx hb hr (fun t2 ht2 _ => ⟨⟨_, (), rfl, rfl, by rw [ht2]; exact hB2, by rw [ht2]; exact hPo1⟩, hS.F ht2⟩) hS.2.2 dL_name_13 hlocks))
    · have hw := (if_neg c0).symm.trans hw
      exact nomatch hw
  · subst hp
    subst ht
    have hPo1 := lo_kept hPo hap hk
    have hPJ := lo_PJ hB hPo1
    refine lv_i2l hx hb dL_name_6 rfl ?_
    refine va_last (D := G.1) (x := v.toInt64) hx hb hKo hPJ (lo_DJ hT.1 hap s.heap.size u _) hS 38 0 (n := 1) (i := 0) (f := f) rfl rfl (by unfold vp_in; decide) dL_name_7 (fun H2 locs2 hP2 _ hS => ?_)
    have hP2 : va_P G.1 vwCl (gw_W G u ++ [(ho, .inl (cL, 1, .inr (.inl (vp_updL f (0 : Int32).toNatClampNeg v.toInt64))))]) H2 := hP2
    have hw1 : some ((0 : Int32), vp_updL f (0 : Int32).toNatClampNeg v.toInt64) = some (r, f2) := hw
    cases hw1
    refine lv_goto (tgt := 14) hx hb dL_name_8 (by decide) ?_
    refine lv_iconst (v := 0) hx hb dL_name_14 (by decide) ?_
    exact W.widen (Nat.le_of_ble_eq_true rfl) (Nat.le_of_ble_eq_true rfl) (vx_ret (W.iret (v := 0) hx hb hr (fun t2 ht2 _ => ⟨⟨_, (), rfl, rfl, by rw [ht2]; exact lo_PL hP2, by rw [ht2]; exact lo_PR hP2⟩, hS.F ht2⟩) hS.2.2 dL_name_15 hlocks))
def w_pair (f : Nat → Int64) (o : (Int32 ⊕ String)) : Option (Int32 × (Nat → Int64)) := match o with
  | .inl v => some (0, vp_updL f (0 : Int32).toNatClampNeg (v : Int32).toInt64)
  | .inr E => (if E = "java/lang/IndexOutOfBoundsException" then some (1, f) else (if E = "java/lang/IllegalArgumentException" then some (2, f) else (if E = "java/lang/UnsupportedOperationException" then some (3, f) else (if E = "java/lang/IllegalStateException" then some (4, f) else none))))
set_option maxHeartbeats 4000000 in
set_option maxRecDepth 100000 in
theorem gl_pair (l : Launch) (hfl : l.stackTraces = false) (G : gw_G) (a0 : Int32) (a1 : Int32) (a2 : Int32) (cL : ClassId) (ho : Nat) (f f2 : Nat → Int64) (r : Int32) (σ : gw_S) (o : (Int32 ⊕ String) × gw_S) (h : f_X8_pair a0 a1 a2 σ = some o) (hw : w_pair f o.1 = some (r, f2)) : ∀ sz : Nat, vx_Met l yL_pair (.codeWith yL_pair cL_pair 6 (some .int) [(0, 12, 15, 19), (0, 12, 19, 34), (0, 12, 23, 21), (0, 12, 27, 13)] :: gw_L) { frames := 8, cells := 4, slots := 6 * 4, locals := 136 } (va_Pc [.ref (G.2.1 0), .int a0, .int a1, .int a2, .ref ho] (lo_Pre G .long cL ho (.inl (cL, 1, .inr (.inl f))) sz σ)) (lo_Q G ho r o.2 (.inl (cL, 1, .inr (.inl f2))) sz) (lo_XC G ho sz) 4 (6 * 4) (lo_A G ho sz) := by
  refine gl_en (own := RL) (lv := [(0, .ref (G.2.1 0)), (1, .int a0), (2, .int a1), (3, .int a2), (4, .ref ho)]) (by decide +kernel) rfl (Nat.le_of_ble_eq_true rfl) rfl ?_
  intro p e s m below meth c ls X hr hlocks htab hl hpre
  obtain ⟨hx, hb, hml, hown, hts, hT, hZ⟩ := id X
  obtain ⟨-, hP, hPo, -, -, hKo, hN, hap⟩ := hpre
  have hS : va_S (lo_A G ho s.heap.size) s.heap s.heap [] := va_S.rf
  refine lv_aload hx hb dL_pair_0 (lv_at hl 4 rfl) ?_
  refine lv_iconst (v := 0) hx hb dL_pair_2 (by decide) ?_
  refine lv_aload_n hx hb dL_pair_3 rfl (lv_at hl 0 rfl) ?_
  refine lv_iload_n hx hb dL_pair_4 rfl (lv_at hl 1 rfl) ?_
  refine lv_iload_n hx hb dL_pair_5 rfl (lv_at hl 2 rfl) ?_
  refine lv_iload_n hx hb dL_pair_6 rfl (lv_at hl 3 rfl) ?_
  refine vx_calli (gl_xV (C := RX8) X hP hS (fun q z => Or.inl z) (gc_X8_pair l hfl G a0 a1 a2 σ _ h) gk_X8_pair gv_817 ⟨gv_818, gv_819⟩ (va_recv hT.2.1 hP (ci := 10) (q0 := 0) rfl rfl) rfl rfl (Nat.le_of_ble_eq_true rfl) hl.1 ⟨rfl, rfl⟩ ⟨Nat.le_of_ble_eq_true rfl, Nat.le_of_ble_eq_true rfl⟩ ⟨Nat.le_of_ble_eq_true rfl, Nat.le_of_ble_eq_true rfl⟩ dL_pair_7) hS (fun q _ z => Or.inl z) (fun q z => Or.inl z) (fun q _ z => Or.inl z) (fun E ce q9 u t H1 locs1 ht hvm hp hB hz hk hS hcell hcv hcl => ?_) (fun v u t H1 locs1 ht hvm hp hB hz hk hS => ?_)
  · obtain ⟨hB1, hB2⟩ := hB
    subst hB1
    subst ht
    have hPo1 := lo_kept hPo hap hk
    have hw : ((if E = "java/lang/IndexOutOfBoundsException" then some (1, f) else (if E = "java/lang/IllegalArgumentException" then some (2, f) else (if E = "java/lang/UnsupportedOperationException" then some (3, f) else (if E = "java/lang/IllegalStateException" then some (4, f) else none)))) : Option (Int32 × (Nat → Int64))) = some (r, f2) := hw
    by_cases c0 : E = "java/lang/IndexOutOfBoundsException"
    · have hw1 := (if_pos c0).symm.trans hw
      cases hw1
      subst c0
      refine vx_catch (name := "java/lang/IndexOutOfBoundsException") hown [] ⟨0, 12, 15, 19⟩ [⟨0, 12, 19, 34⟩, ⟨0, 12, 23, 21⟩, ⟨0, 12, 27, 13⟩] htab (fun _ z => nomatch z) (by decide) (by decide) (hts _ gv_635) (hts _ gv_655) hcell hcv hcl ?_
      refine lv_astore (lv' := [(5, .ref q9), (0, .ref (G.2.1 0)), (1, .int a0), (2, .int a1), (3, .int a2), (4, .ref ho)]) hx hb dL_pair_15 hl (by decide) rfl (fun ls hl => ?_)
      refine lv_iconst (v := 1) hx hb dL_pair_17 (by decide) ?_
      exact W.widen (Nat.le_of_ble_eq_true rfl) (Nat.le_of_ble_eq_true rfl) (vx_ret (W.iret (v := 1) hx hb hr (fun t2 ht2 _ => ⟨⟨_, (), rfl, rfl, by rw [ht2]; exact hB2, by rw [ht2]; exact hPo1⟩, hS.F ht2⟩) hS.2.2 dL_pair_18 hlocks))
    · have hw := (if_neg c0).symm.trans hw
      by_cases c1 : E = "java/lang/IllegalArgumentException"
      · have hw1 := (if_pos c1).symm.trans hw
        cases hw1
        subst c1
        refine vx_catch (name := "java/lang/IllegalArgumentException") hown [⟨0, 12, 15, 19⟩] ⟨0, 12, 19, 34⟩ [⟨0, 12, 23, 21⟩, ⟨0, 12, 27, 13⟩] htab (List.forall_mem_cons.mpr ⟨Or.inr ⟨by decide, _, hts _ gv_635, hN 1 0 _ _ rfl rfl (by decide)⟩, (fun _ z => nomatch z)⟩) (by decide) (by decide) (hts _ gv_712) (hts _ gv_724) hcell hcv hcl ?_
        refine lv_astore (lv' := [(5, .ref q9), (0, .ref (G.2.1 0)), (1, .int a0), (2, .int a1), (3, .int a2), (4, .ref ho)]) hx hb dL_pair_19 hl (by decide) rfl (fun ls hl => ?_)
        refine lv_iconst (v := 2) hx hb dL_pair_21 (by decide) ?_
        exact W.widen (Nat.le_of_ble_eq_true rfl) (Nat.le_of_ble_eq_true rfl) (vx_ret (W.iret (v := 2) hx hb hr (fun t2 ht2 _ => ⟨⟨_, (), rfl, rfl, by rw [ht2]; exact hB2, by rw [ht2]; exact hPo1⟩, hS.F ht2⟩) hS.2.2 dL_pair_22 hlocks))
      · have hw := (if_neg c1).symm.trans hw
        by_cases c2 : E = "java/lang/UnsupportedOperationException"
        · have hw1 := (if_pos c2).symm.trans hw
          cases hw1
          subst c2
          refine vx_catch (name := "java/lang/UnsupportedOperationException") hown [⟨0, 12, 15, 19⟩, ⟨0, 12, 19, 34⟩] ⟨0, 12, 23, 21⟩ [⟨0, 12, 27, 13⟩] htab (List.forall_mem_cons.mpr ⟨Or.inr ⟨by decide, _, hts _ gv_635, hN 2 0 _ _ rfl rfl (by decide)⟩, (List.forall_mem_cons.mpr ⟨Or.inr ⟨by decide, _, hts _ gv_712, hN 2 1 _ _ rfl rfl (by decide)⟩, (fun _ z => nomatch z)⟩)⟩) (by decide) (by decide) (hts _ gv_636) (hts _ gv_671) hcell hcv hcl ?_
          refine lv_astore (lv' := [(5, .ref q9), (0, .ref (G.2.1 0)), (1, .int a0), (2, .int a1), (3, .int a2), (4, .ref ho)]) hx hb dL_pair_23 hl (by decide) rfl (fun ls hl => ?_)
          refine lv_iconst (v := 3) hx hb dL_pair_25 (by decide) ?_
          exact W.widen (Nat.le_of_ble_eq_true rfl) (Nat.le_of_ble_eq_true rfl) (vx_ret (W.iret (v := 3) hx hb hr (fun t2 ht2 _ => ⟨⟨_, (), rfl, rfl, by rw [ht2]; exact hB2, by rw [ht2]; exact hPo1⟩, hS.F ht2⟩) hS.2.2 dL_pair_26 hlocks))
        · have hw := (if_neg c2).symm.trans hw
          by_cases c3 : E = "java/lang/IllegalStateException"
          · have hw1 := (if_pos c3).symm.trans hw
            cases hw1
            subst c3
            refine vx_catch (name := "java/lang/IllegalStateException") hown [⟨0, 12, 15, 19⟩, ⟨0, 12, 19, 34⟩, ⟨0, 12, 23, 21⟩] ⟨0, 12, 27, 13⟩ [] htab (List.forall_mem_cons.mpr ⟨Or.inr ⟨by decide, _, hts _ gv_635, hN 3 0 _ _ rfl rfl (by decide)⟩, (List.forall_mem_cons.mpr ⟨Or.inr ⟨by decide, _, hts _ gv_712, hN 3 1 _ _ rfl rfl (by decide)⟩, (List.forall_mem_cons.mpr ⟨Or.inr ⟨by decide, _, hts _ gv_636, hN 3 2 _ _ rfl rfl (by decide)⟩, (fun _ z => nomatch z)⟩)⟩)⟩) (by decide) (by decide) (hts _ gv_552) (hts _ gv_559) hcell hcv hcl ?_
            refine lv_astore (lv' := [(5, .ref q9), (0, .ref (G.2.1 0)), (1, .int a0), (2, .int a1), (3, .int a2), (4, .ref ho)]) hx hb dL_pair_27 hl (by decide) rfl (fun ls hl => ?_)
            refine lv_iconst (v := 4) hx hb dL_pair_29 (by decide) ?_
            exact W.widen (Nat.le_of_ble_eq_true rfl) (Nat.le_of_ble_eq_true rfl) (vx_ret (W.iret (v := 4) hx hb hr (fun t2 ht2 _ => ⟨⟨_, (), rfl, rfl, by rw [ht2]; exact hB2, by rw [ht2]; exact hPo1⟩, hS.F ht2⟩) hS.2.2 dL_pair_30 hlocks))
          · have hw := (if_neg c3).symm.trans hw
            exact nomatch hw
  · subst hp
    subst ht
    have hPo1 := lo_kept hPo hap hk
    have hPJ := lo_PJ hB hPo1
    refine lv_i2l hx hb dL_pair_10 rfl ?_
    refine va_last (D := G.1) (x := v.toInt64) hx hb hKo hPJ (lo_DJ hT.1 hap s.heap.size u _) hS 38 0 (n := 1) (i := 0) (f := f) rfl rfl (by unfold vp_in; decide) dL_pair_11 (fun H2 locs2 hP2 _ hS => ?_)
    have hP2 : va_P G.1 vwCl (gw_W G u ++ [(ho, .inl (cL, 1, .inr (.inl (vp_updL f (0 : Int32).toNatClampNeg v.toInt64))))]) H2 := hP2
    have hw1 : some ((0 : Int32), vp_updL f (0 : Int32).toNatClampNeg v.toInt64) = some (r, f2) := hw
    cases hw1
    refine lv_goto (tgt := 31) hx hb dL_pair_12 (by decide) ?_
    refine lv_iconst (v := 0) hx hb dL_pair_31 (by decide) ?_
    exact W.widen (Nat.le_of_ble_eq_true rfl) (Nat.le_of_ble_eq_true rfl) (vx_ret (W.iret (v := 0) hx hb hr (fun t2 ht2 _ => ⟨⟨_, (), rfl, rfl, by rw [ht2]; exact lo_PL hP2, by rw [ht2]; exact lo_PR hP2⟩, hS.F ht2⟩) hS.2.2 dL_pair_32 hlocks))
def w_unpair (f : Nat → Int64) (o : (Int32 ⊕ String)) : Option (Int32 × (Nat → Int64)) := match o with
  | .inl v => some (0, vp_updL f (0 : Int32).toNatClampNeg (v : Int32).toInt64)
  | .inr E => (if E = "java/lang/IndexOutOfBoundsException" then some (1, f) else (if E = "java/lang/UnsupportedOperationException" then some (2, f) else none))
set_option maxHeartbeats 4000000 in
set_option maxRecDepth 100000 in
theorem gl_unpair (l : Launch) (hfl : l.stackTraces = false) (G : gw_G) (a0 : Int32) (cL : ClassId) (ho : Nat) (f f2 : Nat → Int64) (r : Int32) (σ : gw_S) (o : (Int32 ⊕ String) × gw_S) (h : f_X8_unpair a0 σ = some o) (hw : w_unpair f o.1 = some (r, f2)) : ∀ sz : Nat, vx_Met l yL_unpair (.codeWith yL_unpair cL_unpair 4 (some .int) [(0, 9, 12, 19), (0, 9, 15, 21)] :: gw_L) { frames := 8, cells := 2, slots := 6 * 2, locals := 131 } (va_Pc [.ref (G.2.1 0), .int a0, .ref ho] (lo_Pre G .long cL ho (.inl (cL, 1, .inr (.inl f))) sz σ)) (lo_Q G ho r o.2 (.inl (cL, 1, .inr (.inl f2))) sz) (lo_XC G ho sz) 2 (6 * 2) (lo_A G ho sz) := by
  refine gl_en (own := RL) (lv := [(0, .ref (G.2.1 0)), (1, .int a0), (2, .ref ho)]) (by decide +kernel) rfl (Nat.le_of_ble_eq_true rfl) rfl ?_
  intro p e s m below meth c ls X hr hlocks htab hl hpre
  obtain ⟨hx, hb, hml, hown, hts, hT, hZ⟩ := id X
  obtain ⟨-, hP, hPo, -, -, hKo, hN, hap⟩ := hpre
  have hS : va_S (lo_A G ho s.heap.size) s.heap s.heap [] := va_S.rf
  refine lv_aload_n hx hb dL_unpair_0 rfl (lv_at hl 2 rfl) ?_
  refine lv_iconst (v := 0) hx hb dL_unpair_1 (by decide) ?_
  refine lv_aload_n hx hb dL_unpair_2 rfl (lv_at hl 0 rfl) ?_
  refine lv_iload_n hx hb dL_unpair_3 rfl (lv_at hl 1 rfl) ?_
  refine vx_calli (gl_xV (C := RX8) X hP hS (fun q z => Or.inl z) (gc_X8_unpair l hfl G a0 σ _ h) gk_X8_unpair gv_857 ⟨gv_858, gv_859⟩ (va_recv hT.2.1 hP (ci := 10) (q0 := 0) rfl rfl) rfl rfl (Nat.le_of_ble_eq_true rfl) hl.1 ⟨rfl, rfl⟩ ⟨Nat.le_of_ble_eq_true rfl, Nat.le_of_ble_eq_true rfl⟩ ⟨Nat.le_of_ble_eq_true rfl, Nat.le_of_ble_eq_true rfl⟩ dL_unpair_4) hS (fun q _ z => Or.inl z) (fun q z => Or.inl z) (fun q _ z => Or.inl z) (fun E ce q9 u t H1 locs1 ht hvm hp hB hz hk hS hcell hcv hcl => ?_) (fun v u t H1 locs1 ht hvm hp hB hz hk hS => ?_)
  · obtain ⟨hB1, hB2⟩ := hB
    subst hB1
    subst ht
    have hPo1 := lo_kept hPo hap hk
    have hw : ((if E = "java/lang/IndexOutOfBoundsException" then some (1, f) else (if E = "java/lang/UnsupportedOperationException" then some (2, f) else none)) : Option (Int32 × (Nat → Int64))) = some (r, f2) := hw
    by_cases c0 : E = "java/lang/IndexOutOfBoundsException"
    · have hw1 := (if_pos c0).symm.trans hw
      cases hw1
      subst c0
      refine vx_catch (name := "java/lang/IndexOutOfBoundsException") hown [] ⟨0, 9, 12, 19⟩ [⟨0, 9, 15, 21⟩] htab (fun _ z => nomatch z) (by decide) (by decide) (hts _ gv_635) (hts _ gv_655) hcell hcv hcl ?_
      refine lv_astore_n (lv' := [(3, .ref q9), (0, .ref (G.2.1 0)), (1, .int a0), (2, .ref ho)]) hx hb dL_unpair_12 rfl hl (by decide) rfl (fun ls hl => ?_)
      refine lv_iconst (v := 1) hx hb dL_unpair_13 (by decide) ?_
      exact W.widen (Nat.le_of_ble_eq_true rfl) (Nat.le_of_ble_eq_true rfl) (vx_ret (W.iret (v := 1) hx hb hr (fun t2 ht2 _ => ⟨⟨_, (), rfl, rfl, by rw [ht2]; exact hB2, by rw [ht2]; exact hPo1⟩, hS.F ht2⟩) hS.2.2 dL_unpair_14 hlocks))
    · have hw := (if_neg c0).symm.trans hw
      by_cases c1 : E = "java/lang/UnsupportedOperationException"
      · have hw1 := (if_pos c1).symm.trans hw
        cases hw1
        subst c1
        refine vx_catch (name := "java/lang/UnsupportedOperationException") hown [⟨0, 9, 12, 19⟩] ⟨0, 9, 15, 21⟩ [] htab (List.forall_mem_cons.mpr ⟨Or.inr ⟨by decide, _, hts _ gv_635, hN 2 0 _ _ rfl rfl (by decide)⟩, (fun _ z => nomatch z)⟩) (by decide) (by decide) (hts _ gv_636) (hts _ gv_671) hcell hcv hcl ?_
        refine lv_astore_n (lv' := [(3, .ref q9), (0, .ref (G.2.1 0)), (1, .int a0), (2, .ref ho)]) hx hb dL_unpair_15 rfl hl (by decide) rfl (fun ls hl => ?_)
        refine lv_iconst (v := 2) hx hb dL_unpair_16 (by decide) ?_
        exact W.widen (Nat.le_of_ble_eq_true rfl) (Nat.le_of_ble_eq_true rfl) (vx_ret (W.iret (v := 2) hx hb hr (fun t2 ht2 _ => ⟨⟨_, (), rfl, rfl, by rw [ht2]; exact hB2, by rw [ht2]; exact hPo1⟩, hS.F ht2⟩) hS.2.2 dL_unpair_17 hlocks))
      · have hw := (if_neg c1).symm.trans hw
        exact nomatch hw
  · subst hp
    subst ht
    have hPo1 := lo_kept hPo hap hk
    have hPJ := lo_PJ hB hPo1
    refine lv_i2l hx hb dL_unpair_7 rfl ?_
    refine va_last (D := G.1) (x := v.toInt64) hx hb hKo hPJ (lo_DJ hT.1 hap s.heap.size u _) hS 38 0 (n := 1) (i := 0) (f := f) rfl rfl (by unfold vp_in; decide) dL_unpair_8 (fun H2 locs2 hP2 _ hS => ?_)
    have hP2 : va_P G.1 vwCl (gw_W G u ++ [(ho, .inl (cL, 1, .inr (.inl (vp_updL f (0 : Int32).toNatClampNeg v.toInt64))))]) H2 := hP2
    have hw1 : some ((0 : Int32), vp_updL f (0 : Int32).toNatClampNeg v.toInt64) = some (r, f2) := hw
    cases hw1
    refine lv_goto (tgt := 18) hx hb dL_unpair_9 (by decide) ?_
    refine lv_iconst (v := 0) hx hb dL_unpair_18 (by decide) ?_
    exact W.widen (Nat.le_of_ble_eq_true rfl) (Nat.le_of_ble_eq_true rfl) (vx_ret (W.iret (v := 0) hx hb hr (fun t2 ht2 _ => ⟨⟨_, (), rfl, rfl, by rw [ht2]; exact lo_PL hP2, by rw [ht2]; exact lo_PR hP2⟩, hS.F ht2⟩) hS.2.2 dL_unpair_19 hlocks))
def w_rank (f : Nat → Int64) (o : (Int32 ⊕ String)) : Option (Int32 × (Nat → Int64)) := match o with
  | .inl v => some (0, vp_updL f (0 : Int32).toNatClampNeg (v : Int32).toInt64)
  | .inr E => (if E = "java/lang/IndexOutOfBoundsException" then some (1, f) else none)
set_option maxHeartbeats 4000000 in
set_option maxRecDepth 100000 in
theorem gl_rank (l : Launch) (hfl : l.stackTraces = false) (G : gw_G) (a0 : Int32) (cL : ClassId) (ho : Nat) (f f2 : Nat → Int64) (r : Int32) (σ : gw_S) (o : (Int32 ⊕ String) × gw_S) (h : f_X8_rank a0 σ = some o) (hw : w_rank f o.1 = some (r, f2)) : ∀ sz : Nat, vx_Met l yL_rank (.codeWith yL_rank cL_rank 4 (some .int) [(0, 9, 12, 19)] :: gw_L) { frames := 8, cells := 1, slots := 6 * 1, locals := 124 } (va_Pc [.ref (G.2.1 0), .int a0, .ref ho] (lo_Pre G .long cL ho (.inl (cL, 1, .inr (.inl f))) sz σ)) (lo_Q G ho r o.2 (.inl (cL, 1, .inr (.inl f2))) sz) (lo_XC G ho sz) 1 (6 * 1) (lo_A G ho sz) := by
  refine gl_en (own := RL) (lv := [(0, .ref (G.2.1 0)), (1, .int a0), (2, .ref ho)]) (by decide +kernel) rfl (Nat.le_of_ble_eq_true rfl) rfl ?_
  intro p e s m below meth c ls X hr hlocks htab hl hpre
  obtain ⟨hx, hb, hml, hown, hts, hT, hZ⟩ := id X
  obtain ⟨-, hP, hPo, -, -, hKo, hN, hap⟩ := hpre
  have hS : va_S (lo_A G ho s.heap.size) s.heap s.heap [] := va_S.rf
  refine lv_aload_n hx hb dL_rank_0 rfl (lv_at hl 2 rfl) ?_
  refine lv_iconst (v := 0) hx hb dL_rank_1 (by decide) ?_
  refine lv_aload_n hx hb dL_rank_2 rfl (lv_at hl 0 rfl) ?_
  refine lv_iload_n hx hb dL_rank_3 rfl (lv_at hl 1 rfl) ?_
  refine vx_calli (gl_xV (C := RX8) X hP hS (fun q z => Or.inl z) (gc_X8_rank l hfl G a0 σ _ h) gk_X8_rank gv_869 ⟨gv_870, gv_871⟩ (va_recv hT.2.1 hP (ci := 10) (q0 := 0) rfl rfl) rfl rfl (Nat.le_of_ble_eq_true rfl) hl.1 ⟨rfl, rfl⟩ ⟨Nat.le_of_ble_eq_true rfl, Nat.le_of_ble_eq_true rfl⟩ ⟨Nat.le_of_ble_eq_true rfl, Nat.le_of_ble_eq_true rfl⟩ dL_rank_4) hS (fun q _ z => Or.inl z) (fun q z => Or.inl z) (fun q _ z => Or.inl z) (fun E ce q9 u t H1 locs1 ht hvm hp hB hz hk hS hcell hcv hcl => ?_) (fun v u t H1 locs1 ht hvm hp hB hz hk hS => ?_)
  · obtain ⟨hB1, hB2⟩ := hB
    subst hB1
    subst ht
    have hPo1 := lo_kept hPo hap hk
    have hw : ((if E = "java/lang/IndexOutOfBoundsException" then some (1, f) else none) : Option (Int32 × (Nat → Int64))) = some (r, f2) := hw
    by_cases c0 : E = "java/lang/IndexOutOfBoundsException"
    · have hw1 := (if_pos c0).symm.trans hw
      cases hw1
      subst c0
      refine vx_catch (name := "java/lang/IndexOutOfBoundsException") hown [] ⟨0, 9, 12, 19⟩ [] htab (fun _ z => nomatch z) (by decide) (by decide) (hts _ gv_635) (hts _ gv_655) hcell hcv hcl ?_
      refine lv_astore_n (lv' := [(3, .ref q9), (0, .ref (G.2.1 0)), (1, .int a0), (2, .ref ho)]) hx hb dL_rank_12 rfl hl (by decide) rfl (fun ls hl => ?_)
      refine lv_iconst (v := 1) hx hb dL_rank_13 (by decide) ?_
      exact W.widen (Nat.le_of_ble_eq_true rfl) (Nat.le_of_ble_eq_true rfl) (vx_ret (W.iret (v := 1) hx hb hr (fun t2 ht2 _ => ⟨⟨_, (), rfl, rfl, by rw [ht2]; exact hB2, by rw [ht2]; exact hPo1⟩, hS.F ht2⟩) hS.2.2 dL_rank_14 hlocks))
    · have hw := (if_neg c0).symm.trans hw
      exact nomatch hw
  · subst hp
    subst ht
    have hPo1 := lo_kept hPo hap hk
    have hPJ := lo_PJ hB hPo1
    refine lv_i2l hx hb dL_rank_7 rfl ?_
    refine va_last (D := G.1) (x := v.toInt64) hx hb hKo hPJ (lo_DJ hT.1 hap s.heap.size u _) hS 38 0 (n := 1) (i := 0) (f := f) rfl rfl (by unfold vp_in; decide) dL_rank_8 (fun H2 locs2 hP2 _ hS => ?_)
    have hP2 : va_P G.1 vwCl (gw_W G u ++ [(ho, .inl (cL, 1, .inr (.inl (vp_updL f (0 : Int32).toNatClampNeg v.toInt64))))]) H2 := hP2
    have hw1 : some ((0 : Int32), vp_updL f (0 : Int32).toNatClampNeg v.toInt64) = some (r, f2) := hw
    cases hw1
    refine lv_goto (tgt := 15) hx hb dL_rank_9 (by decide) ?_
    refine lv_iconst (v := 0) hx hb dL_rank_15 (by decide) ?_
    exact W.widen (Nat.le_of_ble_eq_true rfl) (Nat.le_of_ble_eq_true rfl) (vx_ret (W.iret (v := 0) hx hb hr (fun t2 ht2 _ => ⟨⟨_, (), rfl, rfl, by rw [ht2]; exact lo_PL hP2, by rw [ht2]; exact lo_PR hP2⟩, hS.F ht2⟩) hS.2.2 dL_rank_16 hlocks))
def w_standard (f : Nat → Int64) (o : (Int32 ⊕ String)) : Option (Int32 × (Nat → Int64)) := match o with
  | .inl v => some (0, vp_updL f (0 : Int32).toNatClampNeg (v : Int32).toInt64)
  | .inr E => (if E = "java/lang/IllegalArgumentException" then some (1, f) else (if E = "java/lang/UnsupportedOperationException" then some (2, f) else (if E = "java/lang/IllegalStateException" then some (3, f) else none)))
set_option maxHeartbeats 4000000 in
set_option maxRecDepth 100000 in
theorem gl_standard (l : Launch) (hfl : l.stackTraces = false) (G : gw_G) (a0 : Int32) (cL : ClassId) (ho : Nat) (f f2 : Nat → Int64) (r : Int32) (σ : gw_S) (o : (Int32 ⊕ String) × gw_S) (h : f_X8_standard a0 σ = some o) (hw : w_standard f o.1 = some (r, f2)) : ∀ sz : Nat, vx_Met l yL_standard (.codeWith yL_standard cL_standard 4 (some .int) [(0, 9, 12, 34), (0, 9, 15, 21), (0, 9, 18, 13)] :: gw_L) { frames := 8, cells := 1, slots := 6 * 1, locals := 159 } (va_Pc [.ref (G.2.1 0), .int a0, .ref ho] (lo_Pre G .long cL ho (.inl (cL, 1, .inr (.inl f))) sz σ)) (lo_Q G ho r o.2 (.inl (cL, 1, .inr (.inl f2))) sz) (lo_XC G ho sz) 1 (6 * 1) (lo_A G ho sz) := by
  refine gl_en (own := RL) (lv := [(0, .ref (G.2.1 0)), (1, .int a0), (2, .ref ho)]) (by decide +kernel) rfl (Nat.le_of_ble_eq_true rfl) rfl ?_
  intro p e s m below meth c ls X hr hlocks htab hl hpre
  obtain ⟨hx, hb, hml, hown, hts, hT, hZ⟩ := id X
  obtain ⟨-, hP, hPo, -, -, hKo, hN, hap⟩ := hpre
  have hS : va_S (lo_A G ho s.heap.size) s.heap s.heap [] := va_S.rf
  refine lv_aload_n hx hb dL_standard_0 rfl (lv_at hl 2 rfl) ?_
  refine lv_iconst (v := 0) hx hb dL_standard_1 (by decide) ?_
  refine lv_aload_n hx hb dL_standard_2 rfl (lv_at hl 0 rfl) ?_
  refine lv_iload_n hx hb dL_standard_3 rfl (lv_at hl 1 rfl) ?_
  refine vx_calli (gl_xV (C := RX8) X hP hS (fun q z => Or.inl z) (gc_X8_standard l hfl G a0 σ _ h) gk_X8_standard gv_876 ⟨gv_877, gv_878⟩ (va_recv hT.2.1 hP (ci := 10) (q0 := 0) rfl rfl) rfl rfl (Nat.le_of_ble_eq_true rfl) hl.1 ⟨rfl, rfl⟩ ⟨Nat.le_of_ble_eq_true rfl, Nat.le_of_ble_eq_true rfl⟩ ⟨Nat.le_of_ble_eq_true rfl, Nat.le_of_ble_eq_true rfl⟩ dL_standard_4) hS (fun q _ z => Or.inl z) (fun q z => Or.inl z) (fun q _ z => Or.inl z) (fun E ce q9 u t H1 locs1 ht hvm hp hB hz hk hS hcell hcv hcl => ?_) (fun v u t H1 locs1 ht hvm hp hB hz hk hS => ?_)
  · obtain ⟨hB1, hB2⟩ := hB
    subst hB1
    subst ht
    have hPo1 := lo_kept hPo hap hk
    have hw : ((if E = "java/lang/IllegalArgumentException" then some (1, f) else (if E = "java/lang/UnsupportedOperationException" then some (2, f) else (if E = "java/lang/IllegalStateException" then some (3, f) else none))) : Option (Int32 × (Nat → Int64))) = some (r, f2) := hw
    by_cases c0 : E = "java/lang/IllegalArgumentException"
    · have hw1 := (if_pos c0).symm.trans hw
      cases hw1
      subst c0
      refine vx_catch (name := "java/lang/IllegalArgumentException") hown [] ⟨0, 9, 12, 34⟩ [⟨0, 9, 15, 21⟩, ⟨0, 9, 18, 13⟩] htab (fun _ z => nomatch z) (by decide) (by decide) (hts _ gv_712) (hts _ gv_724) hcell hcv hcl ?_
      refine lv_astore_n (lv' := [(3, .ref q9), (0, .ref (G.2.1 0)), (1, .int a0), (2, .ref ho)]) hx hb dL_standard_12 rfl hl (by decide) rfl (fun ls hl => ?_)
      refine lv_iconst (v := 1) hx hb dL_standard_13 (by decide) ?_
      exact W.widen (Nat.le_of_ble_eq_true rfl) (Nat.le_of_ble_eq_true rfl) (vx_ret (W.iret (v := 1) hx hb hr (fun t2 ht2 _ => ⟨⟨_, (), rfl, rfl, by rw [ht2]; exact hB2, by rw [ht2]; exact hPo1⟩, hS.F ht2⟩) hS.2.2 dL_standard_14 hlocks))
    · have hw := (if_neg c0).symm.trans hw
      by_cases c1 : E = "java/lang/UnsupportedOperationException"
      · have hw1 := (if_pos c1).symm.trans hw
        cases hw1
        subst c1
        refine vx_catch (name := "java/lang/UnsupportedOperationException") hown [⟨0, 9, 12, 34⟩] ⟨0, 9, 15, 21⟩ [⟨0, 9, 18, 13⟩] htab (List.forall_mem_cons.mpr ⟨Or.inr ⟨by decide, _, hts _ gv_712, hN 2 1 _ _ rfl rfl (by decide)⟩, (fun _ z => nomatch z)⟩) (by decide) (by decide) (hts _ gv_636) (hts _ gv_671) hcell hcv hcl ?_
        refine lv_astore_n (lv' := [(3, .ref q9), (0, .ref (G.2.1 0)), (1, .int a0), (2, .ref ho)]) hx hb dL_standard_15 rfl hl (by decide) rfl (fun ls hl => ?_)
        refine lv_iconst (v := 2) hx hb dL_standard_16 (by decide) ?_
        exact W.widen (Nat.le_of_ble_eq_true rfl) (Nat.le_of_ble_eq_true rfl) (vx_ret (W.iret (v := 2) hx hb hr (fun t2 ht2 _ => ⟨⟨_, (), rfl, rfl, by rw [ht2]; exact hB2, by rw [ht2]; exact hPo1⟩, hS.F ht2⟩) hS.2.2 dL_standard_17 hlocks))
      · have hw := (if_neg c1).symm.trans hw
        by_cases c2 : E = "java/lang/IllegalStateException"
        · have hw1 := (if_pos c2).symm.trans hw
          cases hw1
          subst c2
          refine vx_catch (name := "java/lang/IllegalStateException") hown [⟨0, 9, 12, 34⟩, ⟨0, 9, 15, 21⟩] ⟨0, 9, 18, 13⟩ [] htab (List.forall_mem_cons.mpr ⟨Or.inr ⟨by decide, _, hts _ gv_712, hN 3 1 _ _ rfl rfl (by decide)⟩, (List.forall_mem_cons.mpr ⟨Or.inr ⟨by decide, _, hts _ gv_636, hN 3 2 _ _ rfl rfl (by decide)⟩, (fun _ z => nomatch z)⟩)⟩) (by decide) (by decide) (hts _ gv_552) (hts _ gv_559) hcell hcv hcl ?_
          refine lv_astore_n (lv' := [(3, .ref q9), (0, .ref (G.2.1 0)), (1, .int a0), (2, .ref ho)]) hx hb dL_standard_18 rfl hl (by decide) rfl (fun ls hl => ?_)
          refine lv_iconst (v := 3) hx hb dL_standard_19 (by decide) ?_
          exact W.widen (Nat.le_of_ble_eq_true rfl) (Nat.le_of_ble_eq_true rfl) (vx_ret (W.iret (v := 3) hx hb hr (fun t2 ht2 _ => ⟨⟨_, (), rfl, rfl, by rw [ht2]; exact hB2, by rw [ht2]; exact hPo1⟩, hS.F ht2⟩) hS.2.2 dL_standard_20 hlocks))
        · have hw := (if_neg c2).symm.trans hw
          exact nomatch hw
  · subst hp
    subst ht
    have hPo1 := lo_kept hPo hap hk
    have hPJ := lo_PJ hB hPo1
    refine lv_i2l hx hb dL_standard_7 rfl ?_
    refine va_last (D := G.1) (x := v.toInt64) hx hb hKo hPJ (lo_DJ hT.1 hap s.heap.size u _) hS 38 0 (n := 1) (i := 0) (f := f) rfl rfl (by unfold vp_in; decide) dL_standard_8 (fun H2 locs2 hP2 _ hS => ?_)
    have hP2 : va_P G.1 vwCl (gw_W G u ++ [(ho, .inl (cL, 1, .inr (.inl (vp_updL f (0 : Int32).toNatClampNeg v.toInt64))))]) H2 := hP2
    have hw1 : some ((0 : Int32), vp_updL f (0 : Int32).toNatClampNeg v.toInt64) = some (r, f2) := hw
    cases hw1
    refine lv_goto (tgt := 21) hx hb dL_standard_9 (by decide) ?_
    refine lv_iconst (v := 0) hx hb dL_standard_21 (by decide) ?_
    exact W.widen (Nat.le_of_ble_eq_true rfl) (Nat.le_of_ble_eq_true rfl) (vx_ret (W.iret (v := 0) hx hb hr (fun t2 ht2 _ => ⟨⟨_, (), rfl, rfl, by rw [ht2]; exact lo_PL hP2, by rw [ht2]; exact lo_PR hP2⟩, hS.F ht2⟩) hS.2.2 dL_standard_22 hlocks))
def w_becomes (f : Nat → Int64) (o : (Int32 ⊕ String)) : Option (Int32 × (Nat → Int64)) := match o with
  | .inl v => some (0, vp_updL f (0 : Int32).toNatClampNeg (v : Int32).toInt64)
  | .inr E => (if E = "java/lang/IndexOutOfBoundsException" then some (1, f) else (if E = "java/lang/IllegalArgumentException" then some (2, f) else none))
set_option maxHeartbeats 4000000 in
set_option maxRecDepth 100000 in
theorem gl_becomes (l : Launch) (hfl : l.stackTraces = false) (G : gw_G) (a0 : Int32) (a1 : Int32) (cL : ClassId) (ho : Nat) (f f2 : Nat → Int64) (r : Int32) (σ : gw_S) (o : (Int32 ⊕ String) × gw_S) (h : f_X8_becomes a0 a1 σ = some o) (hw : w_becomes f o.1 = some (r, f2)) : ∀ sz : Nat, vx_Met l yL_becomes (.codeWith yL_becomes cL_becomes 5 (some .int) [(0, 10, 13, 19), (0, 10, 17, 34)] :: gw_L) { frames := 8, cells := 2, slots := 6 * 2, locals := 125 } (va_Pc [.ref (G.2.1 0), .int a0, .int a1, .ref ho] (lo_Pre G .long cL ho (.inl (cL, 1, .inr (.inl f))) sz σ)) (lo_Q G ho r o.2 (.inl (cL, 1, .inr (.inl f2))) sz) (lo_XC G ho sz) 2 (6 * 2) (lo_A G ho sz) := by
  refine gl_en (own := RL) (lv := [(0, .ref (G.2.1 0)), (1, .int a0), (2, .int a1), (3, .ref ho)]) (by decide +kernel) rfl (Nat.le_of_ble_eq_true rfl) rfl ?_
  intro p e s m below meth c ls X hr hlocks htab hl hpre
  obtain ⟨hx, hb, hml, hown, hts, hT, hZ⟩ := id X
  obtain ⟨-, hP, hPo, -, -, hKo, hN, hap⟩ := hpre
  have hS : va_S (lo_A G ho s.heap.size) s.heap s.heap [] := va_S.rf
  refine lv_aload_n hx hb dL_becomes_0 rfl (lv_at hl 3 rfl) ?_
  refine lv_iconst (v := 0) hx hb dL_becomes_1 (by decide) ?_
  refine lv_aload_n hx hb dL_becomes_2 rfl (lv_at hl 0 rfl) ?_
  refine lv_iload_n hx hb dL_becomes_3 rfl (lv_at hl 1 rfl) ?_
  refine lv_iload_n hx hb dL_becomes_4 rfl (lv_at hl 2 rfl) ?_
  refine vx_calli (gl_xV (C := RX8) X hP hS (fun q z => Or.inl z) (gc_X8_becomes l hfl G a0 a1 σ _ h) gk_X8_becomes gv_897 ⟨gv_898, gv_899⟩ (va_recv hT.2.1 hP (ci := 10) (q0 := 0) rfl rfl) rfl rfl (Nat.le_of_ble_eq_true rfl) hl.1 ⟨rfl, rfl⟩ ⟨Nat.le_of_ble_eq_true rfl, Nat.le_of_ble_eq_true rfl⟩ ⟨Nat.le_of_ble_eq_true rfl, Nat.le_of_ble_eq_true rfl⟩ dL_becomes_5) hS (fun q _ z => Or.inl z) (fun q z => Or.inl z) (fun q _ z => Or.inl z) (fun E ce q9 u t H1 locs1 ht hvm hp hB hz hk hS hcell hcv hcl => ?_) (fun v u t H1 locs1 ht hvm hp hB hz hk hS => ?_)
  · obtain ⟨hB1, hB2⟩ := hB
    subst hB1
    subst ht
    have hPo1 := lo_kept hPo hap hk
    have hw : ((if E = "java/lang/IndexOutOfBoundsException" then some (1, f) else (if E = "java/lang/IllegalArgumentException" then some (2, f) else none)) : Option (Int32 × (Nat → Int64))) = some (r, f2) := hw
    by_cases c0 : E = "java/lang/IndexOutOfBoundsException"
    · have hw1 := (if_pos c0).symm.trans hw
      cases hw1
      subst c0
      refine vx_catch (name := "java/lang/IndexOutOfBoundsException") hown [] ⟨0, 10, 13, 19⟩ [⟨0, 10, 17, 34⟩] htab (fun _ z => nomatch z) (by decide) (by decide) (hts _ gv_635) (hts _ gv_655) hcell hcv hcl ?_
      refine lv_astore (lv' := [(4, .ref q9), (0, .ref (G.2.1 0)), (1, .int a0), (2, .int a1), (3, .ref ho)]) hx hb dL_becomes_13 hl (by decide) rfl (fun ls hl => ?_)
      refine lv_iconst (v := 1) hx hb dL_becomes_15 (by decide) ?_
      exact W.widen (Nat.le_of_ble_eq_true rfl) (Nat.le_of_ble_eq_true rfl) (vx_ret (W.iret (v := 1) hx hb hr (fun t2 ht2 _ => ⟨⟨_, (), rfl, rfl, by rw [ht2]; exact hB2, by rw [ht2]; exact hPo1⟩, hS.F ht2⟩) hS.2.2 dL_becomes_16 hlocks))
    · have hw := (if_neg c0).symm.trans hw
      by_cases c1 : E = "java/lang/IllegalArgumentException"
      · have hw1 := (if_pos c1).symm.trans hw
        cases hw1
        subst c1
        refine vx_catch (name := "java/lang/IllegalArgumentException") hown [⟨0, 10, 13, 19⟩] ⟨0, 10, 17, 34⟩ [] htab (List.forall_mem_cons.mpr ⟨Or.inr ⟨by decide, _, hts _ gv_635, hN 1 0 _ _ rfl rfl (by decide)⟩, (fun _ z => nomatch z)⟩) (by decide) (by decide) (hts _ gv_712) (hts _ gv_724) hcell hcv hcl ?_
        refine lv_astore (lv' := [(4, .ref q9), (0, .ref (G.2.1 0)), (1, .int a0), (2, .int a1), (3, .ref ho)]) hx hb dL_becomes_17 hl (by decide) rfl (fun ls hl => ?_)
        refine lv_iconst (v := 2) hx hb dL_becomes_19 (by decide) ?_
        exact W.widen (Nat.le_of_ble_eq_true rfl) (Nat.le_of_ble_eq_true rfl) (vx_ret (W.iret (v := 2) hx hb hr (fun t2 ht2 _ => ⟨⟨_, (), rfl, rfl, by rw [ht2]; exact hB2, by rw [ht2]; exact hPo1⟩, hS.F ht2⟩) hS.2.2 dL_becomes_20 hlocks))
      · have hw := (if_neg c1).symm.trans hw
        exact nomatch hw
  · subst hp
    subst ht
    have hPo1 := lo_kept hPo hap hk
    have hPJ := lo_PJ hB hPo1
    refine lv_i2l hx hb dL_becomes_8 rfl ?_
    refine va_last (D := G.1) (x := v.toInt64) hx hb hKo hPJ (lo_DJ hT.1 hap s.heap.size u _) hS 38 0 (n := 1) (i := 0) (f := f) rfl rfl (by unfold vp_in; decide) dL_becomes_9 (fun H2 locs2 hP2 _ hS => ?_)
    have hP2 : va_P G.1 vwCl (gw_W G u ++ [(ho, .inl (cL, 1, .inr (.inl (vp_updL f (0 : Int32).toNatClampNeg v.toInt64))))]) H2 := hP2
    have hw1 : some ((0 : Int32), vp_updL f (0 : Int32).toNatClampNeg v.toInt64) = some (r, f2) := hw
    cases hw1
    refine lv_goto (tgt := 21) hx hb dL_becomes_10 (by decide) ?_
    refine lv_iconst (v := 0) hx hb dL_becomes_21 (by decide) ?_
    exact W.widen (Nat.le_of_ble_eq_true rfl) (Nat.le_of_ble_eq_true rfl) (vx_ret (W.iret (v := 0) hx hb hr (fun t2 ht2 _ => ⟨⟨_, (), rfl, rfl, by rw [ht2]; exact lo_PL hP2, by rw [ht2]; exact lo_PR hP2⟩, hS.F ht2⟩) hS.2.2 dL_becomes_22 hlocks))
def w_valueIn (f : Nat → Int64) (o : (Int32 ⊕ String)) : Option (Int32 × (Nat → Int64)) := match o with
  | .inl v => some (0, vp_updL f (0 : Int32).toNatClampNeg (v : Int32).toInt64)
  | .inr E => (if E = "java/lang/IndexOutOfBoundsException" then some (1, f) else none)
set_option maxHeartbeats 4000000 in
set_option maxRecDepth 100000 in
theorem gl_valueIn (l : Launch) (hfl : l.stackTraces = false) (G : gw_G) (a0 : Int32) (a1 : Int32) (cL : ClassId) (ho : Nat) (f f2 : Nat → Int64) (r : Int32) (σ : gw_S) (o : (Int32 ⊕ String) × gw_S) (h : f_X8_valueIn a0 a1 σ = some o) (hw : w_valueIn f o.1 = some (r, f2)) : ∀ sz : Nat, vx_Met l yL_valueIn (.codeWith yL_valueIn cL_valueIn 5 (some .int) [(0, 10, 13, 19)] :: gw_L) { frames := 8, cells := 2, slots := 6 * 2, locals := 156 } (va_Pc [.ref (G.2.1 0), .int a0, .int a1, .ref ho] (lo_Pre G .long cL ho (.inl (cL, 1, .inr (.inl f))) sz σ)) (lo_Q G ho r o.2 (.inl (cL, 1, .inr (.inl f2))) sz) (lo_XC G ho sz) 2 (6 * 2) (lo_A G ho sz) := by
  refine gl_en (own := RL) (lv := [(0, .ref (G.2.1 0)), (1, .int a0), (2, .int a1), (3, .ref ho)]) (by decide +kernel) rfl (Nat.le_of_ble_eq_true rfl) rfl ?_
  intro p e s m below meth c ls X hr hlocks htab hl hpre
  obtain ⟨hx, hb, hml, hown, hts, hT, hZ⟩ := id X
  obtain ⟨-, hP, hPo, -, -, hKo, hN, hap⟩ := hpre
  have hS : va_S (lo_A G ho s.heap.size) s.heap s.heap [] := va_S.rf
  refine lv_aload_n hx hb dL_valueIn_0 rfl (lv_at hl 3 rfl) ?_
  refine lv_iconst (v := 0) hx hb dL_valueIn_1 (by decide) ?_
  refine lv_aload_n hx hb dL_valueIn_2 rfl (lv_at hl 0 rfl) ?_
  refine lv_iload_n hx hb dL_valueIn_3 rfl (lv_at hl 1 rfl) ?_
  refine lv_iload_n hx hb dL_valueIn_4 rfl (lv_at hl 2 rfl) ?_
  refine vx_calli (gl_xV (C := RX8) X hP hS (fun q z => Or.inl z) (gc_X8_valueIn l hfl G a0 a1 σ _ h) gk_X8_valueIn gv_904 ⟨gv_905, gv_906⟩ (va_recv hT.2.1 hP (ci := 10) (q0 := 0) rfl rfl) rfl rfl (Nat.le_of_ble_eq_true rfl) hl.1 ⟨rfl, rfl⟩ ⟨Nat.le_of_ble_eq_true rfl, Nat.le_of_ble_eq_true rfl⟩ ⟨Nat.le_of_ble_eq_true rfl, Nat.le_of_ble_eq_true rfl⟩ dL_valueIn_5) hS (fun q _ z => Or.inl z) (fun q z => Or.inl z) (fun q _ z => Or.inl z) (fun E ce q9 u t H1 locs1 ht hvm hp hB hz hk hS hcell hcv hcl => ?_) (fun v u t H1 locs1 ht hvm hp hB hz hk hS => ?_)
  · obtain ⟨hB1, hB2⟩ := hB
    subst hB1
    subst ht
    have hPo1 := lo_kept hPo hap hk
    have hw : ((if E = "java/lang/IndexOutOfBoundsException" then some (1, f) else none) : Option (Int32 × (Nat → Int64))) = some (r, f2) := hw
    by_cases c0 : E = "java/lang/IndexOutOfBoundsException"
    · have hw1 := (if_pos c0).symm.trans hw
      cases hw1
      subst c0
      refine vx_catch (name := "java/lang/IndexOutOfBoundsException") hown [] ⟨0, 10, 13, 19⟩ [] htab (fun _ z => nomatch z) (by decide) (by decide) (hts _ gv_635) (hts _ gv_655) hcell hcv hcl ?_
      refine lv_astore (lv' := [(4, .ref q9), (0, .ref (G.2.1 0)), (1, .int a0), (2, .int a1), (3, .ref ho)]) hx hb dL_valueIn_13 hl (by decide) rfl (fun ls hl => ?_)
      refine lv_iconst (v := 1) hx hb dL_valueIn_15 (by decide) ?_
      exact W.widen (Nat.le_of_ble_eq_true rfl) (Nat.le_of_ble_eq_true rfl) (vx_ret (W.iret (v := 1) hx hb hr (fun t2 ht2 _ => ⟨⟨_, (), rfl, rfl, by rw [ht2]; exact hB2, by rw [ht2]; exact hPo1⟩, hS.F ht2⟩) hS.2.2 dL_valueIn_16 hlocks))
    · have hw := (if_neg c0).symm.trans hw
      exact nomatch hw
  · subst hp
    subst ht
    have hPo1 := lo_kept hPo hap hk
    have hPJ := lo_PJ hB hPo1
    refine lv_i2l hx hb dL_valueIn_8 rfl ?_
    refine va_last (D := G.1) (x := v.toInt64) hx hb hKo hPJ (lo_DJ hT.1 hap s.heap.size u _) hS 38 0 (n := 1) (i := 0) (f := f) rfl rfl (by unfold vp_in; decide) dL_valueIn_9 (fun H2 locs2 hP2 _ hS => ?_)
    have hP2 : va_P G.1 vwCl (gw_W G u ++ [(ho, .inl (cL, 1, .inr (.inl (vp_updL f (0 : Int32).toNatClampNeg v.toInt64))))]) H2 := hP2
    have hw1 : some ((0 : Int32), vp_updL f (0 : Int32).toNatClampNeg v.toInt64) = some (r, f2) := hw
    cases hw1
    refine lv_goto (tgt := 17) hx hb dL_valueIn_10 (by decide) ?_
    refine lv_iconst (v := 0) hx hb dL_valueIn_17 (by decide) ?_
    exact W.widen (Nat.le_of_ble_eq_true rfl) (Nat.le_of_ble_eq_true rfl) (vx_ret (W.iret (v := 0) hx hb hr (fun t2 ht2 _ => ⟨⟨_, (), rfl, rfl, by rw [ht2]; exact lo_PL hP2, by rw [ht2]; exact lo_PR hP2⟩, hS.F ht2⟩) hS.2.2 dL_valueIn_18 hlocks))
def w_valueLike (f : Nat → Int64) (o : (Int32 ⊕ String)) : Option (Int32 × (Nat → Int64)) := match o with
  | .inl v => some (0, vp_updL f (0 : Int32).toNatClampNeg (v : Int32).toInt64)
  | .inr E => (if E = "java/lang/IndexOutOfBoundsException" then some (1, f) else none)
set_option maxHeartbeats 4000000 in
set_option maxRecDepth 100000 in
theorem gl_valueLike (l : Launch) (hfl : l.stackTraces = false) (G : gw_G) (a0 : Int32) (a1 : Int32) (cL : ClassId) (ho : Nat) (f f2 : Nat → Int64) (r : Int32) (σ : gw_S) (o : (Int32 ⊕ String) × gw_S) (h : f_X8_valueLike a0 a1 σ = some o) (hw : w_valueLike f o.1 = some (r, f2)) : ∀ sz : Nat, vx_Met l yL_valueLike (.codeWith yL_valueLike cL_valueLike 5 (some .int) [(0, 10, 13, 19)] :: gw_L) { frames := 8, cells := 2, slots := 6 * 2, locals := 156 } (va_Pc [.ref (G.2.1 0), .int a0, .int a1, .ref ho] (lo_Pre G .long cL ho (.inl (cL, 1, .inr (.inl f))) sz σ)) (lo_Q G ho r o.2 (.inl (cL, 1, .inr (.inl f2))) sz) (lo_XC G ho sz) 2 (6 * 2) (lo_A G ho sz) := by
  refine gl_en (own := RL) (lv := [(0, .ref (G.2.1 0)), (1, .int a0), (2, .int a1), (3, .ref ho)]) (by decide +kernel) rfl (Nat.le_of_ble_eq_true rfl) rfl ?_
  intro p e s m below meth c ls X hr hlocks htab hl hpre
  obtain ⟨hx, hb, hml, hown, hts, hT, hZ⟩ := id X
  obtain ⟨-, hP, hPo, -, -, hKo, hN, hap⟩ := hpre
  have hS : va_S (lo_A G ho s.heap.size) s.heap s.heap [] := va_S.rf
  refine lv_aload_n hx hb dL_valueLike_0 rfl (lv_at hl 3 rfl) ?_
  refine lv_iconst (v := 0) hx hb dL_valueLike_1 (by decide) ?_
  refine lv_aload_n hx hb dL_valueLike_2 rfl (lv_at hl 0 rfl) ?_
  refine lv_iload_n hx hb dL_valueLike_3 rfl (lv_at hl 1 rfl) ?_
  refine lv_iload_n hx hb dL_valueLike_4 rfl (lv_at hl 2 rfl) ?_
  refine vx_calli (gl_xV (C := RX8) X hP hS (fun q z => Or.inl z) (gc_X8_valueLike l hfl G a0 a1 σ _ h) gk_X8_valueLike gv_918 ⟨gv_919, gv_920⟩ (va_recv hT.2.1 hP (ci := 10) (q0 := 0) rfl rfl) rfl rfl (Nat.le_of_ble_eq_true rfl) hl.1 ⟨rfl, rfl⟩ ⟨Nat.le_of_ble_eq_true rfl, Nat.le_of_ble_eq_true rfl⟩ ⟨Nat.le_of_ble_eq_true rfl, Nat.le_of_ble_eq_true rfl⟩ dL_valueLike_5) hS (fun q _ z => Or.inl z) (fun q z => Or.inl z) (fun q _ z => Or.inl z) (fun E ce q9 u t H1 locs1 ht hvm hp hB hz hk hS hcell hcv hcl => ?_) (fun v u t H1 locs1 ht hvm hp hB hz hk hS => ?_)
  · obtain ⟨hB1, hB2⟩ := hB
    subst hB1
    subst ht
    have hPo1 := lo_kept hPo hap hk
    have hw : ((if E = "java/lang/IndexOutOfBoundsException" then some (1, f) else none) : Option (Int32 × (Nat → Int64))) = some (r, f2) := hw
    by_cases c0 : E = "java/lang/IndexOutOfBoundsException"
    · have hw1 := (if_pos c0).symm.trans hw
      cases hw1
      subst c0
      refine vx_catch (name := "java/lang/IndexOutOfBoundsException") hown [] ⟨0, 10, 13, 19⟩ [] htab (fun _ z => nomatch z) (by decide) (by decide) (hts _ gv_635) (hts _ gv_655) hcell hcv hcl ?_
      refine lv_astore (lv' := [(4, .ref q9), (0, .ref (G.2.1 0)), (1, .int a0), (2, .int a1), (3, .ref ho)]) hx hb dL_valueLike_13 hl (by decide) rfl (fun ls hl => ?_)
      refine lv_iconst (v := 1) hx hb dL_valueLike_15 (by decide) ?_
      exact W.widen (Nat.le_of_ble_eq_true rfl) (Nat.le_of_ble_eq_true rfl) (vx_ret (W.iret (v := 1) hx hb hr (fun t2 ht2 _ => ⟨⟨_, (), rfl, rfl, by rw [ht2]; exact hB2, by rw [ht2]; exact hPo1⟩, hS.F ht2⟩) hS.2.2 dL_valueLike_16 hlocks))
    · have hw := (if_neg c0).symm.trans hw
      exact nomatch hw
  · subst hp
    subst ht
    have hPo1 := lo_kept hPo hap hk
    have hPJ := lo_PJ hB hPo1
    refine lv_i2l hx hb dL_valueLike_8 rfl ?_
    refine va_last (D := G.1) (x := v.toInt64) hx hb hKo hPJ (lo_DJ hT.1 hap s.heap.size u _) hS 38 0 (n := 1) (i := 0) (f := f) rfl rfl (by unfold vp_in; decide) dL_valueLike_9 (fun H2 locs2 hP2 _ hS => ?_)
    have hP2 : va_P G.1 vwCl (gw_W G u ++ [(ho, .inl (cL, 1, .inr (.inl (vp_updL f (0 : Int32).toNatClampNeg v.toInt64))))]) H2 := hP2
    have hw1 : some ((0 : Int32), vp_updL f (0 : Int32).toNatClampNeg v.toInt64) = some (r, f2) := hw
    cases hw1
    refine lv_goto (tgt := 17) hx hb dL_valueLike_10 (by decide) ?_
    refine lv_iconst (v := 0) hx hb dL_valueLike_17 (by decide) ?_
    exact W.widen (Nat.le_of_ble_eq_true rfl) (Nat.le_of_ble_eq_true rfl) (vx_ret (W.iret (v := 0) hx hb hr (fun t2 ht2 _ => ⟨⟨_, (), rfl, rfl, by rw [ht2]; exact lo_PL hP2, by rw [ht2]; exact lo_PR hP2⟩, hS.F ht2⟩) hS.2.2 dL_valueLike_18 hlocks))
def w_forcesIn (f : Nat → Int64) (o : (Int32 ⊕ String)) : Option (Int32 × (Nat → Int64)) := match o with
  | .inl v => some (0, vp_updL f (0 : Int32).toNatClampNeg (if (v : Int32) = 0 then (0 : Int64) else (1 : Int64)))
  | .inr E => (if E = "java/lang/IndexOutOfBoundsException" then some (1, f) else none)
set_option maxHeartbeats 4000000 in
set_option maxRecDepth 100000 in
theorem gl_forcesIn (l : Launch) (hfl : l.stackTraces = false) (G : gw_G) (a0 : Int32) (a1 : Int32) (a2 : Int32) (cL : ClassId) (ho : Nat) (f f2 : Nat → Int64) (r : Int32) (σ : gw_S) (o : (Int32 ⊕ String) × gw_S) (h : f_X8_forcesIn a0 a1 a2 σ = some o) (hw : w_forcesIn f o.1 = some (r, f2)) : ∀ sz : Nat, vx_Met l yL_forcesIn (.codeWith yL_forcesIn cL_forcesIn 6 (some .int) [(0, 19, 22, 19)] :: gw_L) { frames := 8, cells := 3, slots := 6 * 3, locals := 159 } (va_Pc [.ref (G.2.1 0), .int a0, .int a1, .int a2, .ref ho] (lo_Pre G .long cL ho (.inl (cL, 1, .inr (.inl f))) sz σ)) (lo_Q G ho r o.2 (.inl (cL, 1, .inr (.inl f2))) sz) (lo_XC G ho sz) 3 (6 * 3) (lo_A G ho sz) := by
  refine gl_en (own := RL) (lv := [(0, .ref (G.2.1 0)), (1, .int a0), (2, .int a1), (3, .int a2), (4, .ref ho)]) (by decide +kernel) rfl (Nat.le_of_ble_eq_true rfl) rfl ?_
  intro p e s m below meth c ls X hr hlocks htab hl hpre
  obtain ⟨hx, hb, hml, hown, hts, hT, hZ⟩ := id X
  obtain ⟨-, hP, hPo, -, -, hKo, hN, hap⟩ := hpre
  have hS : va_S (lo_A G ho s.heap.size) s.heap s.heap [] := va_S.rf
  refine lv_aload hx hb dL_forcesIn_0 (lv_at hl 4 rfl) ?_
  refine lv_iconst (v := 0) hx hb dL_forcesIn_2 (by decide) ?_
  refine lv_aload_n hx hb dL_forcesIn_3 rfl (lv_at hl 0 rfl) ?_
  refine lv_iload_n hx hb dL_forcesIn_4 rfl (lv_at hl 1 rfl) ?_
  refine lv_iload_n hx hb dL_forcesIn_5 rfl (lv_at hl 2 rfl) ?_
  refine lv_iload_n hx hb dL_forcesIn_6 rfl (lv_at hl 3 rfl) ?_
  refine vx_calli (gl_xV (C := RX8) X hP hS (fun q z => Or.inl z) (gc_X8_forcesIn l hfl G a0 a1 a2 σ _ h) gk_X8_forcesIn gv_925 ⟨gv_926, gv_927⟩ (va_recv hT.2.1 hP (ci := 10) (q0 := 0) rfl rfl) rfl rfl (Nat.le_of_ble_eq_true rfl) hl.1 ⟨rfl, rfl⟩ ⟨Nat.le_of_ble_eq_true rfl, Nat.le_of_ble_eq_true rfl⟩ ⟨Nat.le_of_ble_eq_true rfl, Nat.le_of_ble_eq_true rfl⟩ dL_forcesIn_7) hS (fun q _ z => Or.inl z) (fun q z => Or.inl z) (fun q _ z => Or.inl z) (fun E ce q9 u t H1 locs1 ht hvm hp hB hz hk hS hcell hcv hcl => ?_) (fun v u t H1 locs1 ht hvm hp hB hz hk hS => ?_)
  · obtain ⟨hB1, hB2⟩ := hB
    subst hB1
    subst ht
    have hPo1 := lo_kept hPo hap hk
    have hw : ((if E = "java/lang/IndexOutOfBoundsException" then some (1, f) else none) : Option (Int32 × (Nat → Int64))) = some (r, f2) := hw
    by_cases c0 : E = "java/lang/IndexOutOfBoundsException"
    · have hw1 := (if_pos c0).symm.trans hw
      cases hw1
      subst c0
      refine vx_catch (name := "java/lang/IndexOutOfBoundsException") hown [] ⟨0, 19, 22, 19⟩ [] htab (fun _ z => nomatch z) (by decide) (by decide) (hts _ gv_635) (hts _ gv_655) hcell hcv hcl ?_
      refine lv_astore (lv' := [(5, .ref q9), (0, .ref (G.2.1 0)), (1, .int a0), (2, .int a1), (3, .int a2), (4, .ref ho)]) hx hb dL_forcesIn_22 hl (by decide) rfl (fun ls hl => ?_)
      refine lv_iconst (v := 1) hx hb dL_forcesIn_24 (by decide) ?_
      exact W.widen (Nat.le_of_ble_eq_true rfl) (Nat.le_of_ble_eq_true rfl) (vx_ret (W.iret (v := 1) hx hb hr (fun t2 ht2 _ => ⟨⟨_, (), rfl, rfl, by rw [ht2]; exact hB2, by rw [ht2]; exact hPo1⟩, hS.F ht2⟩) hS.2.2 dL_forcesIn_25 hlocks))
    · have hw := (if_neg c0).symm.trans hw
      exact nomatch hw
  · obtain ⟨hp, -⟩ := hp
    subst hp
    subst ht
    have hPo1 := lo_kept hPo hap hk
    have hPJ := lo_PJ hB hPo1
    refine lv_if_eq (tgt := 17) hx hb dL_forcesIn_10 (by decide) (fun c => ?_) (fun c => ?_)
    · refine lv_lconst (v := 0) hx hb dL_forcesIn_17 (by decide) ?_
      refine va_last (D := G.1) (x := (0 : Int64)) hx hb hKo hPJ (lo_DJ hT.1 hap s.heap.size u _) hS 38 0 (n := 1) (i := 0) (f := f) rfl rfl (by unfold vp_in; decide) dL_forcesIn_18 (fun H2 locs2 hP2 _ hS => ?_)
      have hP2 : va_P G.1 vwCl (gw_W G u ++ [(ho, .inl (cL, 1, .inr (.inl (vp_updL f (0 : Int32).toNatClampNeg (0 : Int64)))))]) H2 := hP2
      have hw1 : some ((0 : Int32), vp_updL f (0 : Int32).toNatClampNeg (0 : Int64)) = some (r, f2) := by rw [show (0 : Int64) = (if v = 0 then (0 : Int64) else (1 : Int64)) from (if_pos c).symm]; exact hw
      cases hw1
      refine lv_goto (tgt := 26) hx hb dL_forcesIn_19 (by decide) ?_
      refine lv_iconst (v := 0) hx hb dL_forcesIn_26 (by decide) ?_
      exact W.widen (Nat.le_of_ble_eq_true rfl) (Nat.le_of_ble_eq_true rfl) (vx_ret (W.iret (v := 0) hx hb hr (fun t2 ht2 _ => ⟨⟨_, (), rfl, rfl, by rw [ht2]; exact lo_PL hP2, by rw [ht2]; exact lo_PR hP2⟩, hS.F ht2⟩) hS.2.2 dL_forcesIn_27 hlocks))
    · refine lv_lconst (v := 1) hx hb dL_forcesIn_13 (by decide) ?_
      refine lv_goto (tgt := 18) hx hb dL_forcesIn_14 (by decide) ?_
      refine va_last (D := G.1) (x := (1 : Int64)) hx hb hKo hPJ (lo_DJ hT.1 hap s.heap.size u _) hS 38 0 (n := 1) (i := 0) (f := f) rfl rfl (by unfold vp_in; decide) dL_forcesIn_18 (fun H2 locs2 hP2 _ hS => ?_)
      have hP2 : va_P G.1 vwCl (gw_W G u ++ [(ho, .inl (cL, 1, .inr (.inl (vp_updL f (0 : Int32).toNatClampNeg (1 : Int64)))))]) H2 := hP2
      have hw1 : some ((0 : Int32), vp_updL f (0 : Int32).toNatClampNeg (1 : Int64)) = some (r, f2) := by rw [show (1 : Int64) = (if v = 0 then (0 : Int64) else (1 : Int64)) from (if_neg c).symm]; exact hw
      cases hw1
      refine lv_goto (tgt := 26) hx hb dL_forcesIn_19 (by decide) ?_
      refine lv_iconst (v := 0) hx hb dL_forcesIn_26 (by decide) ?_
      exact W.widen (Nat.le_of_ble_eq_true rfl) (Nat.le_of_ble_eq_true rfl) (vx_ret (W.iret (v := 0) hx hb hr (fun t2 ht2 _ => ⟨⟨_, (), rfl, rfl, by rw [ht2]; exact lo_PL hP2, by rw [ht2]; exact lo_PR hP2⟩, hS.F ht2⟩) hS.2.2 dL_forcesIn_27 hlocks))
def w_forcesLike (f : Nat → Int64) (o : (Int32 ⊕ String)) : Option (Int32 × (Nat → Int64)) := match o with
  | .inl v => some (0, vp_updL f (0 : Int32).toNatClampNeg (if (v : Int32) = 0 then (0 : Int64) else (1 : Int64)))
  | .inr E => (if E = "java/lang/IndexOutOfBoundsException" then some (1, f) else none)
set_option maxHeartbeats 4000000 in
set_option maxRecDepth 100000 in
theorem gl_forcesLike (l : Launch) (hfl : l.stackTraces = false) (G : gw_G) (a0 : Int32) (a1 : Int32) (a2 : Int32) (cL : ClassId) (ho : Nat) (f f2 : Nat → Int64) (r : Int32) (σ : gw_S) (o : (Int32 ⊕ String) × gw_S) (h : f_X8_forcesLike a0 a1 a2 σ = some o) (hw : w_forcesLike f o.1 = some (r, f2)) : ∀ sz : Nat, vx_Met l yL_forcesLike (.codeWith yL_forcesLike cL_forcesLike 6 (some .int) [(0, 19, 22, 19)] :: gw_L) { frames := 8, cells := 3, slots := 6 * 3, locals := 159 } (va_Pc [.ref (G.2.1 0), .int a0, .int a1, .int a2, .ref ho] (lo_Pre G .long cL ho (.inl (cL, 1, .inr (.inl f))) sz σ)) (lo_Q G ho r o.2 (.inl (cL, 1, .inr (.inl f2))) sz) (lo_XC G ho sz) 3 (6 * 3) (lo_A G ho sz) := by
  refine gl_en (own := RL) (lv := [(0, .ref (G.2.1 0)), (1, .int a0), (2, .int a1), (3, .int a2), (4, .ref ho)]) (by decide +kernel) rfl (Nat.le_of_ble_eq_true rfl) rfl ?_
  intro p e s m below meth c ls X hr hlocks htab hl hpre
  obtain ⟨hx, hb, hml, hown, hts, hT, hZ⟩ := id X
  obtain ⟨-, hP, hPo, -, -, hKo, hN, hap⟩ := hpre
  have hS : va_S (lo_A G ho s.heap.size) s.heap s.heap [] := va_S.rf
  refine lv_aload hx hb dL_forcesLike_0 (lv_at hl 4 rfl) ?_
  refine lv_iconst (v := 0) hx hb dL_forcesLike_2 (by decide) ?_
  refine lv_aload_n hx hb dL_forcesLike_3 rfl (lv_at hl 0 rfl) ?_
  refine lv_iload_n hx hb dL_forcesLike_4 rfl (lv_at hl 1 rfl) ?_
  refine lv_iload_n hx hb dL_forcesLike_5 rfl (lv_at hl 2 rfl) ?_
  refine lv_iload_n hx hb dL_forcesLike_6 rfl (lv_at hl 3 rfl) ?_
  refine vx_calli (gl_xV (C := RX8) X hP hS (fun q z => Or.inl z) (gc_X8_forcesLike l hfl G a0 a1 a2 σ _ h) gk_X8_forcesLike gv_932 ⟨gv_933, gv_934⟩ (va_recv hT.2.1 hP (ci := 10) (q0 := 0) rfl rfl) rfl rfl (Nat.le_of_ble_eq_true rfl) hl.1 ⟨rfl, rfl⟩ ⟨Nat.le_of_ble_eq_true rfl, Nat.le_of_ble_eq_true rfl⟩ ⟨Nat.le_of_ble_eq_true rfl, Nat.le_of_ble_eq_true rfl⟩ dL_forcesLike_7) hS (fun q _ z => Or.inl z) (fun q z => Or.inl z) (fun q _ z => Or.inl z) (fun E ce q9 u t H1 locs1 ht hvm hp hB hz hk hS hcell hcv hcl => ?_) (fun v u t H1 locs1 ht hvm hp hB hz hk hS => ?_)
  · obtain ⟨hB1, hB2⟩ := hB
    subst hB1
    subst ht
    have hPo1 := lo_kept hPo hap hk
    have hw : ((if E = "java/lang/IndexOutOfBoundsException" then some (1, f) else none) : Option (Int32 × (Nat → Int64))) = some (r, f2) := hw
    by_cases c0 : E = "java/lang/IndexOutOfBoundsException"
    · have hw1 := (if_pos c0).symm.trans hw
      cases hw1
      subst c0
      refine vx_catch (name := "java/lang/IndexOutOfBoundsException") hown [] ⟨0, 19, 22, 19⟩ [] htab (fun _ z => nomatch z) (by decide) (by decide) (hts _ gv_635) (hts _ gv_655) hcell hcv hcl ?_
      refine lv_astore (lv' := [(5, .ref q9), (0, .ref (G.2.1 0)), (1, .int a0), (2, .int a1), (3, .int a2), (4, .ref ho)]) hx hb dL_forcesLike_22 hl (by decide) rfl (fun ls hl => ?_)
      refine lv_iconst (v := 1) hx hb dL_forcesLike_24 (by decide) ?_
      exact W.widen (Nat.le_of_ble_eq_true rfl) (Nat.le_of_ble_eq_true rfl) (vx_ret (W.iret (v := 1) hx hb hr (fun t2 ht2 _ => ⟨⟨_, (), rfl, rfl, by rw [ht2]; exact hB2, by rw [ht2]; exact hPo1⟩, hS.F ht2⟩) hS.2.2 dL_forcesLike_25 hlocks))
    · have hw := (if_neg c0).symm.trans hw
      exact nomatch hw
  · obtain ⟨hp, -⟩ := hp
    subst hp
    subst ht
    have hPo1 := lo_kept hPo hap hk
    have hPJ := lo_PJ hB hPo1
    refine lv_if_eq (tgt := 17) hx hb dL_forcesLike_10 (by decide) (fun c => ?_) (fun c => ?_)
    · refine lv_lconst (v := 0) hx hb dL_forcesLike_17 (by decide) ?_
      refine va_last (D := G.1) (x := (0 : Int64)) hx hb hKo hPJ (lo_DJ hT.1 hap s.heap.size u _) hS 38 0 (n := 1) (i := 0) (f := f) rfl rfl (by unfold vp_in; decide) dL_forcesLike_18 (fun H2 locs2 hP2 _ hS => ?_)
      have hP2 : va_P G.1 vwCl (gw_W G u ++ [(ho, .inl (cL, 1, .inr (.inl (vp_updL f (0 : Int32).toNatClampNeg (0 : Int64)))))]) H2 := hP2
      have hw1 : some ((0 : Int32), vp_updL f (0 : Int32).toNatClampNeg (0 : Int64)) = some (r, f2) := by rw [show (0 : Int64) = (if v = 0 then (0 : Int64) else (1 : Int64)) from (if_pos c).symm]; exact hw
      cases hw1
      refine lv_goto (tgt := 26) hx hb dL_forcesLike_19 (by decide) ?_
      refine lv_iconst (v := 0) hx hb dL_forcesLike_26 (by decide) ?_
      exact W.widen (Nat.le_of_ble_eq_true rfl) (Nat.le_of_ble_eq_true rfl) (vx_ret (W.iret (v := 0) hx hb hr (fun t2 ht2 _ => ⟨⟨_, (), rfl, rfl, by rw [ht2]; exact lo_PL hP2, by rw [ht2]; exact lo_PR hP2⟩, hS.F ht2⟩) hS.2.2 dL_forcesLike_27 hlocks))
    · refine lv_lconst (v := 1) hx hb dL_forcesLike_13 (by decide) ?_
      refine lv_goto (tgt := 18) hx hb dL_forcesLike_14 (by decide) ?_
      refine va_last (D := G.1) (x := (1 : Int64)) hx hb hKo hPJ (lo_DJ hT.1 hap s.heap.size u _) hS 38 0 (n := 1) (i := 0) (f := f) rfl rfl (by unfold vp_in; decide) dL_forcesLike_18 (fun H2 locs2 hP2 _ hS => ?_)
      have hP2 : va_P G.1 vwCl (gw_W G u ++ [(ho, .inl (cL, 1, .inr (.inl (vp_updL f (0 : Int32).toNatClampNeg (1 : Int64)))))]) H2 := hP2
      have hw1 : some ((0 : Int32), vp_updL f (0 : Int32).toNatClampNeg (1 : Int64)) = some (r, f2) := by rw [show (1 : Int64) = (if v = 0 then (0 : Int64) else (1 : Int64)) from (if_neg c).symm]; exact hw
      cases hw1
      refine lv_goto (tgt := 26) hx hb dL_forcesLike_19 (by decide) ?_
      refine lv_iconst (v := 0) hx hb dL_forcesLike_26 (by decide) ?_
      exact W.widen (Nat.le_of_ble_eq_true rfl) (Nat.le_of_ble_eq_true rfl) (vx_ret (W.iret (v := 0) hx hb hr (fun t2 ht2 _ => ⟨⟨_, (), rfl, rfl, by rw [ht2]; exact lo_PL hP2, by rw [ht2]; exact lo_PR hP2⟩, hS.F ht2⟩) hS.2.2 dL_forcesLike_27 hlocks))
def w_mix (f : Nat → Int64) (o : (Int32 ⊕ String)) : Option (Int32 × (Nat → Int64)) := match o with
  | .inl v => some (0, vp_updL f (0 : Int32).toNatClampNeg (v : Int32).toInt64)
  | .inr E => (if E = "java/lang/IndexOutOfBoundsException" then some (1, f) else (if E = "java/lang/UnsupportedOperationException" then some (2, f) else (if E = "java/lang/IllegalStateException" then some (3, f) else none)))
set_option maxHeartbeats 4000000 in
set_option maxRecDepth 100000 in
theorem gl_mix (l : Launch) (hfl : l.stackTraces = false) (G : gw_G) (a0 : Int32) (a1 : Int32) (a2 : Int32) (a3 : Int32) (cL : ClassId) (ho : Nat) (f f2 : Nat → Int64) (r : Int32) (σ : gw_S) (o : (Int32 ⊕ String) × gw_S) (h : f_X8_mix a0 a1 a2 a3 σ = some o) (hw : w_mix f o.1 = some (r, f2)) : ∀ sz : Nat, vx_Met l yL_mix (.codeWith yL_mix cL_mix 7 (some .int) [(0, 14, 17, 19), (0, 14, 21, 21), (0, 14, 25, 13)] :: gw_L) { frames := 8, cells := 5, slots := 6 * 5, locals := 161 } (va_Pc [.ref (G.2.1 0), .int a0, .int a1, .int a2, .int a3, .ref ho] (lo_Pre G .long cL ho (.inl (cL, 1, .inr (.inl f))) sz σ)) (lo_Q G ho r o.2 (.inl (cL, 1, .inr (.inl f2))) sz) (lo_XC G ho sz) 5 (6 * 5) (lo_A G ho sz) := by
  refine gl_en (own := RL) (lv := [(0, .ref (G.2.1 0)), (1, .int a0), (2, .int a1), (3, .int a2), (4, .int a3), (5, .ref ho)]) (by decide +kernel) rfl (Nat.le_of_ble_eq_true rfl) rfl ?_
  intro p e s m below meth c ls X hr hlocks htab hl hpre
  obtain ⟨hx, hb, hml, hown, hts, hT, hZ⟩ := id X
  obtain ⟨-, hP, hPo, -, -, hKo, hN, hap⟩ := hpre
  have hS : va_S (lo_A G ho s.heap.size) s.heap s.heap [] := va_S.rf
  refine lv_aload hx hb dL_mix_0 (lv_at hl 5 rfl) ?_
  refine lv_iconst (v := 0) hx hb dL_mix_2 (by decide) ?_
  refine lv_aload_n hx hb dL_mix_3 rfl (lv_at hl 0 rfl) ?_
  refine lv_iload_n hx hb dL_mix_4 rfl (lv_at hl 1 rfl) ?_
  refine lv_iload_n hx hb dL_mix_5 rfl (lv_at hl 2 rfl) ?_
  refine lv_iload_n hx hb dL_mix_6 rfl (lv_at hl 3 rfl) ?_
  refine lv_iload hx hb dL_mix_7 (lv_at hl 4 rfl) ?_
  refine vx_calli (gl_xV (C := RX8) X hP hS (fun q z => Or.inl z) (gc_X8_mix l hfl G a0 a1 a2 a3 σ _ h) gk_X8_mix gv_939 ⟨gv_940, gv_941⟩ (va_recv hT.2.1 hP (ci := 10) (q0 := 0) rfl rfl) rfl rfl (Nat.le_of_ble_eq_true rfl) hl.1 ⟨rfl, rfl⟩ ⟨Nat.le_of_ble_eq_true rfl, Nat.le_of_ble_eq_true rfl⟩ ⟨Nat.le_of_ble_eq_true rfl, Nat.le_of_ble_eq_true rfl⟩ dL_mix_9) hS (fun q _ z => Or.inl z) (fun q z => Or.inl z) (fun q _ z => Or.inl z) (fun E ce q9 u t H1 locs1 ht hvm hp hB hz hk hS hcell hcv hcl => ?_) (fun v u t H1 locs1 ht hvm hp hB hz hk hS => ?_)
  · obtain ⟨hB1, hB2⟩ := hB
    subst hB1
    subst ht
    have hPo1 := lo_kept hPo hap hk
    have hw : ((if E = "java/lang/IndexOutOfBoundsException" then some (1, f) else (if E = "java/lang/UnsupportedOperationException" then some (2, f) else (if E = "java/lang/IllegalStateException" then some (3, f) else none))) : Option (Int32 × (Nat → Int64))) = some (r, f2) := hw
    by_cases c0 : E = "java/lang/IndexOutOfBoundsException"
    · have hw1 := (if_pos c0).symm.trans hw
      cases hw1
      subst c0
      refine vx_catch (name := "java/lang/IndexOutOfBoundsException") hown [] ⟨0, 14, 17, 19⟩ [⟨0, 14, 21, 21⟩, ⟨0, 14, 25, 13⟩] htab (fun _ z => nomatch z) (by decide) (by decide) (hts _ gv_635) (hts _ gv_655) hcell hcv hcl ?_
      refine lv_astore (lv' := [(6, .ref q9), (0, .ref (G.2.1 0)), (1, .int a0), (2, .int a1), (3, .int a2), (4, .int a3), (5, .ref ho)]) hx hb dL_mix_17 hl (by decide) rfl (fun ls hl => ?_)
      refine lv_iconst (v := 1) hx hb dL_mix_19 (by decide) ?_
      exact W.widen (Nat.le_of_ble_eq_true rfl) (Nat.le_of_ble_eq_true rfl) (vx_ret (W.iret (v := 1) hx hb hr (fun t2 ht2 _ => ⟨⟨_, (), rfl, rfl, by rw [ht2]; exact hB2, by rw [ht2]; exact hPo1⟩, hS.F ht2⟩) hS.2.2 dL_mix_20 hlocks))
    · have hw := (if_neg c0).symm.trans hw
      by_cases c1 : E = "java/lang/UnsupportedOperationException"
      · have hw1 := (if_pos c1).symm.trans hw
        cases hw1
        subst c1
        refine vx_catch (name := "java/lang/UnsupportedOperationException") hown [⟨0, 14, 17, 19⟩] ⟨0, 14, 21, 21⟩ [⟨0, 14, 25, 13⟩] htab (List.forall_mem_cons.mpr ⟨Or.inr ⟨by decide, _, hts _ gv_635, hN 2 0 _ _ rfl rfl (by decide)⟩, (fun _ z => nomatch z)⟩) (by decide) (by decide) (hts _ gv_636) (hts _ gv_671) hcell hcv hcl ?_
        refine lv_astore (lv' := [(6, .ref q9), (0, .ref (G.2.1 0)), (1, .int a0), (2, .int a1), (3, .int a2), (4, .int a3), (5, .ref ho)]) hx hb dL_mix_21 hl (by decide) rfl (fun ls hl => ?_)
        refine lv_iconst (v := 2) hx hb dL_mix_23 (by decide) ?_
        exact W.widen (Nat.le_of_ble_eq_true rfl) (Nat.le_of_ble_eq_true rfl) (vx_ret (W.iret (v := 2) hx hb hr (fun t2 ht2 _ => ⟨⟨_, (), rfl, rfl, by rw [ht2]; exact hB2, by rw [ht2]; exact hPo1⟩, hS.F ht2⟩) hS.2.2 dL_mix_24 hlocks))
      · have hw := (if_neg c1).symm.trans hw
        by_cases c2 : E = "java/lang/IllegalStateException"
        · have hw1 := (if_pos c2).symm.trans hw
          cases hw1
          subst c2
          refine vx_catch (name := "java/lang/IllegalStateException") hown [⟨0, 14, 17, 19⟩, ⟨0, 14, 21, 21⟩] ⟨0, 14, 25, 13⟩ [] htab (List.forall_mem_cons.mpr ⟨Or.inr ⟨by decide, _, hts _ gv_635, hN 3 0 _ _ rfl rfl (by decide)⟩, (List.forall_mem_cons.mpr ⟨Or.inr ⟨by decide, _, hts _ gv_636, hN 3 2 _ _ rfl rfl (by decide)⟩, (fun _ z => nomatch z)⟩)⟩) (by decide) (by decide) (hts _ gv_552) (hts _ gv_559) hcell hcv hcl ?_
          refine lv_astore (lv' := [(6, .ref q9), (0, .ref (G.2.1 0)), (1, .int a0), (2, .int a1), (3, .int a2), (4, .int a3), (5, .ref ho)]) hx hb dL_mix_25 hl (by decide) rfl (fun ls hl => ?_)
          refine lv_iconst (v := 3) hx hb dL_mix_27 (by decide) ?_
          exact W.widen (Nat.le_of_ble_eq_true rfl) (Nat.le_of_ble_eq_true rfl) (vx_ret (W.iret (v := 3) hx hb hr (fun t2 ht2 _ => ⟨⟨_, (), rfl, rfl, by rw [ht2]; exact hB2, by rw [ht2]; exact hPo1⟩, hS.F ht2⟩) hS.2.2 dL_mix_28 hlocks))
        · have hw := (if_neg c2).symm.trans hw
          exact nomatch hw
  · subst hp
    subst ht
    have hPo1 := lo_kept hPo hap hk
    have hPJ := lo_PJ hB hPo1
    refine lv_i2l hx hb dL_mix_12 rfl ?_
    refine va_last (D := G.1) (x := v.toInt64) hx hb hKo hPJ (lo_DJ hT.1 hap s.heap.size u _) hS 38 0 (n := 1) (i := 0) (f := f) rfl rfl (by unfold vp_in; decide) dL_mix_13 (fun H2 locs2 hP2 _ hS => ?_)
    have hP2 : va_P G.1 vwCl (gw_W G u ++ [(ho, .inl (cL, 1, .inr (.inl (vp_updL f (0 : Int32).toNatClampNeg v.toInt64))))]) H2 := hP2
    have hw1 : some ((0 : Int32), vp_updL f (0 : Int32).toNatClampNeg v.toInt64) = some (r, f2) := hw
    cases hw1
    refine lv_goto (tgt := 29) hx hb dL_mix_14 (by decide) ?_
    refine lv_iconst (v := 0) hx hb dL_mix_29 (by decide) ?_
    exact W.widen (Nat.le_of_ble_eq_true rfl) (Nat.le_of_ble_eq_true rfl) (vx_ret (W.iret (v := 0) hx hb hr (fun t2 ht2 _ => ⟨⟨_, (), rfl, rfl, by rw [ht2]; exact lo_PL hP2, by rw [ht2]; exact lo_PR hP2⟩, hS.F ht2⟩) hS.2.2 dL_mix_30 hlocks))
def w_atom (f : Nat → Int64) (o : (Int32 ⊕ String)) : Option (Int32 × (Nat → Int64)) := match o with
  | .inl v => some (0, vp_updL f (0 : Int32).toNatClampNeg (v : Int32).toInt64)
  | .inr E => (if E = "java/lang/IllegalArgumentException" then some (1, f) else (if E = "java/lang/IllegalStateException" then some (2, f) else none))
set_option maxHeartbeats 4000000 in
set_option maxRecDepth 100000 in
theorem gl_atom (l : Launch) (hfl : l.stackTraces = false) (G : gw_G) (a0 : Int32) (a1 : Int32) (a2 : Int32) (cL : ClassId) (ho : Nat) (f f2 : Nat → Int64) (r : Int32) (σ : gw_S) (o : (Int32 ⊕ String) × gw_S) (h : f_X8_atom a0 a1 a2 σ = some o) (hw : w_atom f o.1 = some (r, f2)) : ∀ sz : Nat, vx_Met l yL_atom (.codeWith yL_atom cL_atom 6 (some .int) [(0, 12, 15, 34), (0, 12, 19, 13)] :: gw_L) { frames := 8, cells := 3, slots := 6 * 3, locals := 126 } (va_Pc [.ref (G.2.1 0), .int a0, .int a1, .int a2, .ref ho] (lo_Pre G .long cL ho (.inl (cL, 1, .inr (.inl f))) sz σ)) (lo_Q G ho r o.2 (.inl (cL, 1, .inr (.inl f2))) sz) (lo_XC G ho sz) 3 (6 * 3) (lo_A G ho sz) := by
  refine gl_en (own := RL) (lv := [(0, .ref (G.2.1 0)), (1, .int a0), (2, .int a1), (3, .int a2), (4, .ref ho)]) (by decide +kernel) rfl (Nat.le_of_ble_eq_true rfl) rfl ?_
  intro p e s m below meth c ls X hr hlocks htab hl hpre
  obtain ⟨hx, hb, hml, hown, hts, hT, hZ⟩ := id X
  obtain ⟨-, hP, hPo, -, -, hKo, hN, hap⟩ := hpre
  have hS : va_S (lo_A G ho s.heap.size) s.heap s.heap [] := va_S.rf
  refine lv_aload hx hb dL_atom_0 (lv_at hl 4 rfl) ?_
  refine lv_iconst (v := 0) hx hb dL_atom_2 (by decide) ?_
  refine lv_aload_n hx hb dL_atom_3 rfl (lv_at hl 0 rfl) ?_
  refine lv_iload_n hx hb dL_atom_4 rfl (lv_at hl 1 rfl) ?_
  refine lv_iload_n hx hb dL_atom_5 rfl (lv_at hl 2 rfl) ?_
  refine lv_iload_n hx hb dL_atom_6 rfl (lv_at hl 3 rfl) ?_
  refine vx_calli (gl_xV (C := RX8) X hP hS (fun q z => Or.inl z) (gc_X8_atom l hfl G a0 a1 a2 σ _ h) gk_X8_atom gv_966 ⟨gv_967, gv_968⟩ (va_recv hT.2.1 hP (ci := 10) (q0 := 0) rfl rfl) rfl rfl (Nat.le_of_ble_eq_true rfl) hl.1 ⟨rfl, rfl⟩ ⟨Nat.le_of_ble_eq_true rfl, Nat.le_of_ble_eq_true rfl⟩ ⟨Nat.le_of_ble_eq_true rfl, Nat.le_of_ble_eq_true rfl⟩ dL_atom_7) hS (fun q _ z => Or.inl z) (fun q z => Or.inl z) (fun q _ z => Or.inl z) (fun E ce q9 u t H1 locs1 ht hvm hp hB hz hk hS hcell hcv hcl => ?_) (fun v u t H1 locs1 ht hvm hp hB hz hk hS => ?_)
  · obtain ⟨hB1, hB2⟩ := hB
    subst hB1
    subst ht
    have hPo1 := lo_kept hPo hap hk
    have hw : ((if E = "java/lang/IllegalArgumentException" then some (1, f) else (if E = "java/lang/IllegalStateException" then some (2, f) else none)) : Option (Int32 × (Nat → Int64))) = some (r, f2) := hw
    by_cases c0 : E = "java/lang/IllegalArgumentException"
    · have hw1 := (if_pos c0).symm.trans hw
      cases hw1
      subst c0
      refine vx_catch (name := "java/lang/IllegalArgumentException") hown [] ⟨0, 12, 15, 34⟩ [⟨0, 12, 19, 13⟩] htab (fun _ z => nomatch z) (by decide) (by decide) (hts _ gv_712) (hts _ gv_724) hcell hcv hcl ?_
      refine lv_astore (lv' := [(5, .ref q9), (0, .ref (G.2.1 0)), (1, .int a0), (2, .int a1), (3, .int a2), (4, .ref ho)]) hx hb dL_atom_15 hl (by decide) rfl (fun ls hl => ?_)
      refine lv_iconst (v := 1) hx hb dL_atom_17 (by decide) ?_
      exact W.widen (Nat.le_of_ble_eq_true rfl) (Nat.le_of_ble_eq_true rfl) (vx_ret (W.iret (v := 1) hx hb hr (fun t2 ht2 _ => ⟨⟨_, (), rfl, rfl, by rw [ht2]; exact hB2, by rw [ht2]; exact hPo1⟩, hS.F ht2⟩) hS.2.2 dL_atom_18 hlocks))
    · have hw := (if_neg c0).symm.trans hw
      by_cases c1 : E = "java/lang/IllegalStateException"
      · have hw1 := (if_pos c1).symm.trans hw
        cases hw1
        subst c1
        refine vx_catch (name := "java/lang/IllegalStateException") hown [⟨0, 12, 15, 34⟩] ⟨0, 12, 19, 13⟩ [] htab (List.forall_mem_cons.mpr ⟨Or.inr ⟨by decide, _, hts _ gv_712, hN 3 1 _ _ rfl rfl (by decide)⟩, (fun _ z => nomatch z)⟩) (by decide) (by decide) (hts _ gv_552) (hts _ gv_559) hcell hcv hcl ?_
        refine lv_astore (lv' := [(5, .ref q9), (0, .ref (G.2.1 0)), (1, .int a0), (2, .int a1), (3, .int a2), (4, .ref ho)]) hx hb dL_atom_19 hl (by decide) rfl (fun ls hl => ?_)
        refine lv_iconst (v := 2) hx hb dL_atom_21 (by decide) ?_
        exact W.widen (Nat.le_of_ble_eq_true rfl) (Nat.le_of_ble_eq_true rfl) (vx_ret (W.iret (v := 2) hx hb hr (fun t2 ht2 _ => ⟨⟨_, (), rfl, rfl, by rw [ht2]; exact hB2, by rw [ht2]; exact hPo1⟩, hS.F ht2⟩) hS.2.2 dL_atom_22 hlocks))
      · have hw := (if_neg c1).symm.trans hw
        exact nomatch hw
  · subst hp
    subst ht
    have hPo1 := lo_kept hPo hap hk
    have hPJ := lo_PJ hB hPo1
    refine lv_i2l hx hb dL_atom_10 rfl ?_
    refine va_last (D := G.1) (x := v.toInt64) hx hb hKo hPJ (lo_DJ hT.1 hap s.heap.size u _) hS 38 0 (n := 1) (i := 0) (f := f) rfl rfl (by unfold vp_in; decide) dL_atom_11 (fun H2 locs2 hP2 _ hS => ?_)
    have hP2 : va_P G.1 vwCl (gw_W G u ++ [(ho, .inl (cL, 1, .inr (.inl (vp_updL f (0 : Int32).toNatClampNeg v.toInt64))))]) H2 := hP2
    have hw1 : some ((0 : Int32), vp_updL f (0 : Int32).toNatClampNeg v.toInt64) = some (r, f2) := hw
    cases hw1
    refine lv_goto (tgt := 23) hx hb dL_atom_12 (by decide) ?_
    refine lv_iconst (v := 0) hx hb dL_atom_23 (by decide) ?_
    exact W.widen (Nat.le_of_ble_eq_true rfl) (Nat.le_of_ble_eq_true rfl) (vx_ret (W.iret (v := 0) hx hb hr (fun t2 ht2 _ => ⟨⟨_, (), rfl, rfl, by rw [ht2]; exact lo_PL hP2, by rw [ht2]; exact lo_PR hP2⟩, hS.F ht2⟩) hS.2.2 dL_atom_24 hlocks))
def w_both (f : Nat → Int64) (o : (Int32 ⊕ String)) : Option (Int32 × (Nat → Int64)) := match o with
  | .inl v => some (0, vp_updL f (0 : Int32).toNatClampNeg (v : Int32).toInt64)
  | .inr E => (if E = "java/lang/IndexOutOfBoundsException" then some (1, f) else (if E = "java/lang/IllegalArgumentException" then some (2, f) else (if E = "java/lang/UnsupportedOperationException" then some (3, f) else (if E = "java/lang/IllegalStateException" then some (4, f) else none))))
set_option maxHeartbeats 4000000 in
set_option maxRecDepth 100000 in
theorem gl_both (l : Launch) (hfl : l.stackTraces = false) (G : gw_G) (a0 : Int32) (a1 : Int32) (a2 : Int32) (cL : ClassId) (ho : Nat) (f f2 : Nat → Int64) (r : Int32) (σ : gw_S) (o : (Int32 ⊕ String) × gw_S) (h : f_X8_both a0 a1 a2 σ = some o) (hw : w_both f o.1 = some (r, f2)) : ∀ sz : Nat, vx_Met l yL_both (.codeWith yL_both cL_both 6 (some .int) [(0, 12, 15, 19), (0, 12, 19, 34), (0, 12, 23, 21), (0, 12, 27, 13)] :: gw_L) { frames := 8, cells := 4, slots := 6 * 4, locals := 128 } (va_Pc [.ref (G.2.1 0), .int a0, .int a1, .int a2, .ref ho] (lo_Pre G .long cL ho (.inl (cL, 1, .inr (.inl f))) sz σ)) (lo_Q G ho r o.2 (.inl (cL, 1, .inr (.inl f2))) sz) (lo_XC G ho sz) 4 (6 * 4) (lo_A G ho sz) := by
  refine gl_en (own := RL) (lv := [(0, .ref (G.2.1 0)), (1, .int a0), (2, .int a1), (3, .int a2), (4, .ref ho)]) (by decide +kernel) rfl (Nat.le_of_ble_eq_true rfl) rfl ?_
  intro p e s m below meth c ls X hr hlocks htab hl hpre
  obtain ⟨hx, hb, hml, hown, hts, hT, hZ⟩ := id X
  obtain ⟨-, hP, hPo, -, -, hKo, hN, hap⟩ := hpre
  have hS : va_S (lo_A G ho s.heap.size) s.heap s.heap [] := va_S.rf
  refine lv_aload hx hb dL_both_0 (lv_at hl 4 rfl) ?_
  refine lv_iconst (v := 0) hx hb dL_both_2 (by decide) ?_
  refine lv_aload_n hx hb dL_both_3 rfl (lv_at hl 0 rfl) ?_
  refine lv_iload_n hx hb dL_both_4 rfl (lv_at hl 1 rfl) ?_
  refine lv_iload_n hx hb dL_both_5 rfl (lv_at hl 2 rfl) ?_
  refine lv_iload_n hx hb dL_both_6 rfl (lv_at hl 3 rfl) ?_
  refine vx_calli (gl_xV (C := RX8) X hP hS (fun q z => Or.inl z) (gc_X8_both l hfl G a0 a1 a2 σ _ h) gk_X8_both gv_993 ⟨gv_994, gv_995⟩ (va_recv hT.2.1 hP (ci := 10) (q0 := 0) rfl rfl) rfl rfl (Nat.le_of_ble_eq_true rfl) hl.1 ⟨rfl, rfl⟩ ⟨Nat.le_of_ble_eq_true rfl, Nat.le_of_ble_eq_true rfl⟩ ⟨Nat.le_of_ble_eq_true rfl, Nat.le_of_ble_eq_true rfl⟩ dL_both_7) hS (fun q _ z => Or.inl z) (fun q z => Or.inl z) (fun q _ z => Or.inl z) (fun E ce q9 u t H1 locs1 ht hvm hp hB hz hk hS hcell hcv hcl => ?_) (fun v u t H1 locs1 ht hvm hp hB hz hk hS => ?_)
  · obtain ⟨hB1, hB2⟩ := hB
    subst hB1
    subst ht
    have hPo1 := lo_kept hPo hap hk
    have hw : ((if E = "java/lang/IndexOutOfBoundsException" then some (1, f) else (if E = "java/lang/IllegalArgumentException" then some (2, f) else (if E = "java/lang/UnsupportedOperationException" then some (3, f) else (if E = "java/lang/IllegalStateException" then some (4, f) else none)))) : Option (Int32 × (Nat → Int64))) = some (r, f2) := hw
    by_cases c0 : E = "java/lang/IndexOutOfBoundsException"
    · have hw1 := (if_pos c0).symm.trans hw
      cases hw1
      subst c0
      refine vx_catch (name := "java/lang/IndexOutOfBoundsException") hown [] ⟨0, 12, 15, 19⟩ [⟨0, 12, 19, 34⟩, ⟨0, 12, 23, 21⟩, ⟨0, 12, 27, 13⟩] htab (fun _ z => nomatch z) (by decide) (by decide) (hts _ gv_635) (hts _ gv_655) hcell hcv hcl ?_
      refine lv_astore (lv' := [(5, .ref q9), (0, .ref (G.2.1 0)), (1, .int a0), (2, .int a1), (3, .int a2), (4, .ref ho)]) hx hb dL_both_15 hl (by decide) rfl (fun ls hl => ?_)
      refine lv_iconst (v := 1) hx hb dL_both_17 (by decide) ?_
      exact W.widen (Nat.le_of_ble_eq_true rfl) (Nat.le_of_ble_eq_true rfl) (vx_ret (W.iret (v := 1) hx hb hr (fun t2 ht2 _ => ⟨⟨_, (), rfl, rfl, by rw [ht2]; exact hB2, by rw [ht2]; exact hPo1⟩, hS.F ht2⟩) hS.2.2 dL_both_18 hlocks))
    · have hw := (if_neg c0).symm.trans hw
      by_cases c1 : E = "java/lang/IllegalArgumentException"
      · have hw1 := (if_pos c1).symm.trans hw
        cases hw1
        subst c1
        refine vx_catch (name := "java/lang/IllegalArgumentException") hown [⟨0, 12, 15, 19⟩] ⟨0, 12, 19, 34⟩ [⟨0, 12, 23, 21⟩, ⟨0, 12, 27, 13⟩] htab (List.forall_mem_cons.mpr ⟨Or.inr ⟨by decide, _, hts _ gv_635, hN 1 0 _ _ rfl rfl (by decide)⟩, (fun _ z => nomatch z)⟩) (by decide) (by decide) (hts _ gv_712) (hts _ gv_724) hcell hcv hcl ?_
        refine lv_astore (lv' := [(5, .ref q9), (0, .ref (G.2.1 0)), (1, .int a0), (2, .int a1), (3, .int a2), (4, .ref ho)]) hx hb dL_both_19 hl (by decide) rfl (fun ls hl => ?_)
        refine lv_iconst (v := 2) hx hb dL_both_21 (by decide) ?_
        exact W.widen (Nat.le_of_ble_eq_true rfl) (Nat.le_of_ble_eq_true rfl) (vx_ret (W.iret (v := 2) hx hb hr (fun t2 ht2 _ => ⟨⟨_, (), rfl, rfl, by rw [ht2]; exact hB2, by rw [ht2]; exact hPo1⟩, hS.F ht2⟩) hS.2.2 dL_both_22 hlocks))
      · have hw := (if_neg c1).symm.trans hw
        by_cases c2 : E = "java/lang/UnsupportedOperationException"
        · have hw1 := (if_pos c2).symm.trans hw
          cases hw1
          subst c2
          refine vx_catch (name := "java/lang/UnsupportedOperationException") hown [⟨0, 12, 15, 19⟩, ⟨0, 12, 19, 34⟩] ⟨0, 12, 23, 21⟩ [⟨0, 12, 27, 13⟩] htab (List.forall_mem_cons.mpr ⟨Or.inr ⟨by decide, _, hts _ gv_635, hN 2 0 _ _ rfl rfl (by decide)⟩, (List.forall_mem_cons.mpr ⟨Or.inr ⟨by decide, _, hts _ gv_712, hN 2 1 _ _ rfl rfl (by decide)⟩, (fun _ z => nomatch z)⟩)⟩) (by decide) (by decide) (hts _ gv_636) (hts _ gv_671) hcell hcv hcl ?_
          refine lv_astore (lv' := [(5, .ref q9), (0, .ref (G.2.1 0)), (1, .int a0), (2, .int a1), (3, .int a2), (4, .ref ho)]) hx hb dL_both_23 hl (by decide) rfl (fun ls hl => ?_)
          refine lv_iconst (v := 3) hx hb dL_both_25 (by decide) ?_
          exact W.widen (Nat.le_of_ble_eq_true rfl) (Nat.le_of_ble_eq_true rfl) (vx_ret (W.iret (v := 3) hx hb hr (fun t2 ht2 _ => ⟨⟨_, (), rfl, rfl, by rw [ht2]; exact hB2, by rw [ht2]; exact hPo1⟩, hS.F ht2⟩) hS.2.2 dL_both_26 hlocks))
        · have hw := (if_neg c2).symm.trans hw
          by_cases c3 : E = "java/lang/IllegalStateException"
          · have hw1 := (if_pos c3).symm.trans hw
            cases hw1
            subst c3
            refine vx_catch (name := "java/lang/IllegalStateException") hown [⟨0, 12, 15, 19⟩, ⟨0, 12, 19, 34⟩, ⟨0, 12, 23, 21⟩] ⟨0, 12, 27, 13⟩ [] htab (List.forall_mem_cons.mpr ⟨Or.inr ⟨by decide, _, hts _ gv_635, hN 3 0 _ _ rfl rfl (by decide)⟩, (List.forall_mem_cons.mpr ⟨Or.inr ⟨by decide, _, hts _ gv_712, hN 3 1 _ _ rfl rfl (by decide)⟩, (List.forall_mem_cons.mpr ⟨Or.inr ⟨by decide, _, hts _ gv_636, hN 3 2 _ _ rfl rfl (by decide)⟩, (fun _ z => nomatch z)⟩)⟩)⟩) (by decide) (by decide) (hts _ gv_552) (hts _ gv_559) hcell hcv hcl ?_
            refine lv_astore (lv' := [(5, .ref q9), (0, .ref (G.2.1 0)), (1, .int a0), (2, .int a1), (3, .int a2), (4, .ref ho)]) hx hb dL_both_27 hl (by decide) rfl (fun ls hl => ?_)
            refine lv_iconst (v := 4) hx hb dL_both_29 (by decide) ?_
            exact W.widen (Nat.le_of_ble_eq_true rfl) (Nat.le_of_ble_eq_true rfl) (vx_ret (W.iret (v := 4) hx hb hr (fun t2 ht2 _ => ⟨⟨_, (), rfl, rfl, by rw [ht2]; exact hB2, by rw [ht2]; exact hPo1⟩, hS.F ht2⟩) hS.2.2 dL_both_30 hlocks))
          · have hw := (if_neg c3).symm.trans hw
            exact nomatch hw
  · subst hp
    subst ht
    have hPo1 := lo_kept hPo hap hk
    have hPJ := lo_PJ hB hPo1
    refine lv_i2l hx hb dL_both_10 rfl ?_
    refine va_last (D := G.1) (x := v.toInt64) hx hb hKo hPJ (lo_DJ hT.1 hap s.heap.size u _) hS 38 0 (n := 1) (i := 0) (f := f) rfl rfl (by unfold vp_in; decide) dL_both_11 (fun H2 locs2 hP2 _ hS => ?_)
    have hP2 : va_P G.1 vwCl (gw_W G u ++ [(ho, .inl (cL, 1, .inr (.inl (vp_updL f (0 : Int32).toNatClampNeg v.toInt64))))]) H2 := hP2
    have hw1 : some ((0 : Int32), vp_updL f (0 : Int32).toNatClampNeg v.toInt64) = some (r, f2) := hw
    cases hw1
    refine lv_goto (tgt := 31) hx hb dL_both_12 (by decide) ?_
    refine lv_iconst (v := 0) hx hb dL_both_31 (by decide) ?_
    exact W.widen (Nat.le_of_ble_eq_true rfl) (Nat.le_of_ble_eq_true rfl) (vx_ret (W.iret (v := 0) hx hb hr (fun t2 ht2 _ => ⟨⟨_, (), rfl, rfl, by rw [ht2]; exact lo_PL hP2, by rw [ht2]; exact lo_PR hP2⟩, hS.F ht2⟩) hS.2.2 dL_both_32 hlocks))
def w_not (f : Nat → Int64) (o : (Int32 ⊕ String)) : Option (Int32 × (Nat → Int64)) := match o with
  | .inl v => some (0, vp_updL f (0 : Int32).toNatClampNeg (v : Int32).toInt64)
  | .inr E => (if E = "java/lang/IndexOutOfBoundsException" then some (1, f) else (if E = "java/lang/UnsupportedOperationException" then some (2, f) else (if E = "java/lang/IllegalStateException" then some (3, f) else none)))
set_option maxHeartbeats 4000000 in
set_option maxRecDepth 100000 in
theorem gl_not (l : Launch) (hfl : l.stackTraces = false) (G : gw_G) (a0 : Int32) (cL : ClassId) (ho : Nat) (f f2 : Nat → Int64) (r : Int32) (σ : gw_S) (o : (Int32 ⊕ String) × gw_S) (h : f_X8_not a0 σ = some o) (hw : w_not f o.1 = some (r, f2)) : ∀ sz : Nat, vx_Met l yL_not (.codeWith yL_not cL_not 4 (some .int) [(0, 9, 12, 19), (0, 9, 15, 21), (0, 9, 18, 13)] :: gw_L) { frames := 8, cells := 3, slots := 6 * 3, locals := 125 } (va_Pc [.ref (G.2.1 0), .int a0, .ref ho] (lo_Pre G .long cL ho (.inl (cL, 1, .inr (.inl f))) sz σ)) (lo_Q G ho r o.2 (.inl (cL, 1, .inr (.inl f2))) sz) (lo_XC G ho sz) 3 (6 * 3) (lo_A G ho sz) := by
  refine gl_en (own := RL) (lv := [(0, .ref (G.2.1 0)), (1, .int a0), (2, .ref ho)]) (by decide +kernel) rfl (Nat.le_of_ble_eq_true rfl) rfl ?_
  intro p e s m below meth c ls X hr hlocks htab hl hpre
  obtain ⟨hx, hb, hml, hown, hts, hT, hZ⟩ := id X
  obtain ⟨-, hP, hPo, -, -, hKo, hN, hap⟩ := hpre
  have hS : va_S (lo_A G ho s.heap.size) s.heap s.heap [] := va_S.rf
  refine lv_aload_n hx hb dL_not_0 rfl (lv_at hl 2 rfl) ?_
  refine lv_iconst (v := 0) hx hb dL_not_1 (by decide) ?_
  refine lv_aload_n hx hb dL_not_2 rfl (lv_at hl 0 rfl) ?_
  refine lv_iload_n hx hb dL_not_3 rfl (lv_at hl 1 rfl) ?_
  refine vx_calli (gl_xV (C := RX8) X hP hS (fun q z => Or.inl z) (gc_X8_not l hfl G a0 σ _ h) gk_X8_not gv_1015 ⟨gv_1016, gv_1017⟩ (va_recv hT.2.1 hP (ci := 10) (q0 := 0) rfl rfl) rfl rfl (Nat.le_of_ble_eq_true rfl) hl.1 ⟨rfl, rfl⟩ ⟨Nat.le_of_ble_eq_true rfl, Nat.le_of_ble_eq_true rfl⟩ ⟨Nat.le_of_ble_eq_true rfl, Nat.le_of_ble_eq_true rfl⟩ dL_not_4) hS (fun q _ z => Or.inl z) (fun q z => Or.inl z) (fun q _ z => Or.inl z) (fun E ce q9 u t H1 locs1 ht hvm hp hB hz hk hS hcell hcv hcl => ?_) (fun v u t H1 locs1 ht hvm hp hB hz hk hS => ?_)
  · obtain ⟨hB1, hB2⟩ := hB
    subst hB1
    subst ht
    have hPo1 := lo_kept hPo hap hk
    have hw : ((if E = "java/lang/IndexOutOfBoundsException" then some (1, f) else (if E = "java/lang/UnsupportedOperationException" then some (2, f) else (if E = "java/lang/IllegalStateException" then some (3, f) else none))) : Option (Int32 × (Nat → Int64))) = some (r, f2) := hw
    by_cases c0 : E = "java/lang/IndexOutOfBoundsException"
    · have hw1 := (if_pos c0).symm.trans hw
      cases hw1
      subst c0
      refine vx_catch (name := "java/lang/IndexOutOfBoundsException") hown [] ⟨0, 9, 12, 19⟩ [⟨0, 9, 15, 21⟩, ⟨0, 9, 18, 13⟩] htab (fun _ z => nomatch z) (by decide) (by decide) (hts _ gv_635) (hts _ gv_655) hcell hcv hcl ?_
      refine lv_astore_n (lv' := [(3, .ref q9), (0, .ref (G.2.1 0)), (1, .int a0), (2, .ref ho)]) hx hb dL_not_12 rfl hl (by decide) rfl (fun ls hl => ?_)
      refine lv_iconst (v := 1) hx hb dL_not_13 (by decide) ?_
      exact W.widen (Nat.le_of_ble_eq_true rfl) (Nat.le_of_ble_eq_true rfl) (vx_ret (W.iret (v := 1) hx hb hr (fun t2 ht2 _ => ⟨⟨_, (), rfl, rfl, by rw [ht2]; exact hB2, by rw [ht2]; exact hPo1⟩, hS.F ht2⟩) hS.2.2 dL_not_14 hlocks))
    · have hw := (if_neg c0).symm.trans hw
      by_cases c1 : E = "java/lang/UnsupportedOperationException"
      · have hw1 := (if_pos c1).symm.trans hw
        cases hw1
        subst c1
        refine vx_catch (name := "java/lang/UnsupportedOperationException") hown [⟨0, 9, 12, 19⟩] ⟨0, 9, 15, 21⟩ [⟨0, 9, 18, 13⟩] htab (List.forall_mem_cons.mpr ⟨Or.inr ⟨by decide, _, hts _ gv_635, hN 2 0 _ _ rfl rfl (by decide)⟩, (fun _ z => nomatch z)⟩) (by decide) (by decide) (hts _ gv_636) (hts _ gv_671) hcell hcv hcl ?_
        refine lv_astore_n (lv' := [(3, .ref q9), (0, .ref (G.2.1 0)), (1, .int a0), (2, .ref ho)]) hx hb dL_not_15 rfl hl (by decide) rfl (fun ls hl => ?_)
        refine lv_iconst (v := 2) hx hb dL_not_16 (by decide) ?_
        exact W.widen (Nat.le_of_ble_eq_true rfl) (Nat.le_of_ble_eq_true rfl) (vx_ret (W.iret (v := 2) hx hb hr (fun t2 ht2 _ => ⟨⟨_, (), rfl, rfl, by rw [ht2]; exact hB2, by rw [ht2]; exact hPo1⟩, hS.F ht2⟩) hS.2.2 dL_not_17 hlocks))
      · have hw := (if_neg c1).symm.trans hw
        by_cases c2 : E = "java/lang/IllegalStateException"
        · have hw1 := (if_pos c2).symm.trans hw
          cases hw1
          subst c2
          refine vx_catch (name := "java/lang/IllegalStateException") hown [⟨0, 9, 12, 19⟩, ⟨0, 9, 15, 21⟩] ⟨0, 9, 18, 13⟩ [] htab (List.forall_mem_cons.mpr ⟨Or.inr ⟨by decide, _, hts _ gv_635, hN 3 0 _ _ rfl rfl (by decide)⟩, (List.forall_mem_cons.mpr ⟨Or.inr ⟨by decide, _, hts _ gv_636, hN 3 2 _ _ rfl rfl (by decide)⟩, (fun _ z => nomatch z)⟩)⟩) (by decide) (by decide) (hts _ gv_552) (hts _ gv_559) hcell hcv hcl ?_
          refine lv_astore_n (lv' := [(3, .ref q9), (0, .ref (G.2.1 0)), (1, .int a0), (2, .ref ho)]) hx hb dL_not_18 rfl hl (by decide) rfl (fun ls hl => ?_)
          refine lv_iconst (v := 3) hx hb dL_not_19 (by decide) ?_
          exact W.widen (Nat.le_of_ble_eq_true rfl) (Nat.le_of_ble_eq_true rfl) (vx_ret (W.iret (v := 3) hx hb hr (fun t2 ht2 _ => ⟨⟨_, (), rfl, rfl, by rw [ht2]; exact hB2, by rw [ht2]; exact hPo1⟩, hS.F ht2⟩) hS.2.2 dL_not_20 hlocks))
        · have hw := (if_neg c2).symm.trans hw
          exact nomatch hw
  · subst hp
    subst ht
    have hPo1 := lo_kept hPo hap hk
    have hPJ := lo_PJ hB hPo1
    refine lv_i2l hx hb dL_not_7 rfl ?_
    refine va_last (D := G.1) (x := v.toInt64) hx hb hKo hPJ (lo_DJ hT.1 hap s.heap.size u _) hS 38 0 (n := 1) (i := 0) (f := f) rfl rfl (by unfold vp_in; decide) dL_not_8 (fun H2 locs2 hP2 _ hS => ?_)
    have hP2 : va_P G.1 vwCl (gw_W G u ++ [(ho, .inl (cL, 1, .inr (.inl (vp_updL f (0 : Int32).toNatClampNeg v.toInt64))))]) H2 := hP2
    have hw1 : some ((0 : Int32), vp_updL f (0 : Int32).toNatClampNeg v.toInt64) = some (r, f2) := hw
    cases hw1
    refine lv_goto (tgt := 21) hx hb dL_not_9 (by decide) ?_
    refine lv_iconst (v := 0) hx hb dL_not_21 (by decide) ?_
    exact W.widen (Nat.le_of_ble_eq_true rfl) (Nat.le_of_ble_eq_true rfl) (vx_ret (W.iret (v := 0) hx hb hr (fun t2 ht2 _ => ⟨⟨_, (), rfl, rfl, by rw [ht2]; exact lo_PL hP2, by rw [ht2]; exact lo_PR hP2⟩, hS.F ht2⟩) hS.2.2 dL_not_22 hlocks))
def w_bind (f : Nat → Int64) (o : (Int32 ⊕ String)) : Option (Int32 × (Nat → Int64)) := match o with
  | .inl v => some (0, vp_updL f (0 : Int32).toNatClampNeg (v : Int32).toInt64)
  | .inr E => (if E = "java/lang/IndexOutOfBoundsException" then some (1, f) else (if E = "java/lang/IllegalArgumentException" then some (2, f) else (if E = "java/lang/UnsupportedOperationException" then some (3, f) else (if E = "java/lang/IllegalStateException" then some (4, f) else none))))
set_option maxHeartbeats 4000000 in
set_option maxRecDepth 100000 in
theorem gl_bind (l : Launch) (hfl : l.stackTraces = false) (G : gw_G) (a0 : Int32) (a1 : Int32) (a2 : Int32) (a3 : Int32) (cL : ClassId) (ho : Nat) (f f2 : Nat → Int64) (r : Int32) (σ : gw_S) (o : (Int32 ⊕ String) × gw_S) (h : f_X8_bind a0 a1 a2 a3 σ = some o) (hw : w_bind f o.1 = some (r, f2)) : ∀ sz : Nat, vx_Met l yL_bind (.codeWith yL_bind cL_bind 7 (some .int) [(0, 14, 17, 19), (0, 14, 21, 34), (0, 14, 25, 21), (0, 14, 29, 13)] :: gw_L) { frames := 8, cells := 4, slots := 6 * 4, locals := 129 } (va_Pc [.ref (G.2.1 0), .int a0, .int a1, .int a2, .int a3, .ref ho] (lo_Pre G .long cL ho (.inl (cL, 1, .inr (.inl f))) sz σ)) (lo_Q G ho r o.2 (.inl (cL, 1, .inr (.inl f2))) sz) (lo_XC G ho sz) 4 (6 * 4) (lo_A G ho sz) := by
  refine gl_en (own := RL) (lv := [(0, .ref (G.2.1 0)), (1, .int a0), (2, .int a1), (3, .int a2), (4, .int a3), (5, .ref ho)]) (by decide +kernel) rfl (Nat.le_of_ble_eq_true rfl) rfl ?_
  intro p e s m below meth c ls X hr hlocks htab hl hpre
  obtain ⟨hx, hb, hml, hown, hts, hT, hZ⟩ := id X
  obtain ⟨-, hP, hPo, -, -, hKo, hN, hap⟩ := hpre
  have hS : va_S (lo_A G ho s.heap.size) s.heap s.heap [] := va_S.rf
  refine lv_aload hx hb dL_bind_0 (lv_at hl 5 rfl) ?_
  refine lv_iconst (v := 0) hx hb dL_bind_2 (by decide) ?_
  refine lv_aload_n hx hb dL_bind_3 rfl (lv_at hl 0 rfl) ?_
  refine lv_iload_n hx hb dL_bind_4 rfl (lv_at hl 1 rfl) ?_
  refine lv_iload_n hx hb dL_bind_5 rfl (lv_at hl 2 rfl) ?_
  refine lv_iload_n hx hb dL_bind_6 rfl (lv_at hl 3 rfl) ?_
  refine lv_iload hx hb dL_bind_7 (lv_at hl 4 rfl) ?_
  refine vx_calli (gl_xV (C := RX8) X hP hS (fun q z => Or.inl z) (gc_X8_bind l hfl G a0 a1 a2 a3 σ _ h) gk_X8_bind gv_1022 ⟨gv_1023, gv_1024⟩ (va_recv hT.2.1 hP (ci := 10) (q0 := 0) rfl rfl) rfl rfl (Nat.le_of_ble_eq_true rfl) hl.1 ⟨rfl, rfl⟩ ⟨Nat.le_of_ble_eq_true rfl, Nat.le_of_ble_eq_true rfl⟩ ⟨Nat.le_of_ble_eq_true rfl, Nat.le_of_ble_eq_true rfl⟩ dL_bind_9) hS (fun q _ z => Or.inl z) (fun q z => Or.inl z) (fun q _ z => Or.inl z) (fun E ce q9 u t H1 locs1 ht hvm hp hB hz hk hS hcell hcv hcl => ?_) (fun v u t H1 locs1 ht hvm hp hB hz hk hS => ?_)
  · obtain ⟨hB1, hB2⟩ := hB
    subst hB1
    subst ht
    have hPo1 := lo_kept hPo hap hk
    have hw : ((if E = "java/lang/IndexOutOfBoundsException" then some (1, f) else (if E = "java/lang/IllegalArgumentException" then some (2, f) else (if E = "java/lang/UnsupportedOperationException" then some (3, f) else (if E = "java/lang/IllegalStateException" then some (4, f) else none)))) : Option (Int32 × (Nat → Int64))) = some (r, f2) := hw
    by_cases c0 : E = "java/lang/IndexOutOfBoundsException"
    · have hw1 := (if_pos c0).symm.trans hw
      cases hw1
      subst c0
      refine vx_catch (name := "java/lang/IndexOutOfBoundsException") hown [] ⟨0, 14, 17, 19⟩ [⟨0, 14, 21, 34⟩, ⟨0, 14, 25, 21⟩, ⟨0, 14, 29, 13⟩] htab (fun _ z => nomatch z) (by decide) (by decide) (hts _ gv_635) (hts _ gv_655) hcell hcv hcl ?_
      refine lv_astore (lv' := [(6, .ref q9), (0, .ref (G.2.1 0)), (1, .int a0), (2, .int a1), (3, .int a2), (4, .int a3), (5, .ref ho)]) hx hb dL_bind_17 hl (by decide) rfl (fun ls hl => ?_)
      refine lv_iconst (v := 1) hx hb dL_bind_19 (by decide) ?_
      exact W.widen (Nat.le_of_ble_eq_true rfl) (Nat.le_of_ble_eq_true rfl) (vx_ret (W.iret (v := 1) hx hb hr (fun t2 ht2 _ => ⟨⟨_, (), rfl, rfl, by rw [ht2]; exact hB2, by rw [ht2]; exact hPo1⟩, hS.F ht2⟩) hS.2.2 dL_bind_20 hlocks))
    · have hw := (if_neg c0).symm.trans hw
      by_cases c1 : E = "java/lang/IllegalArgumentException"
      · have hw1 := (if_pos c1).symm.trans hw
        cases hw1
        subst c1
        refine vx_catch (name := "java/lang/IllegalArgumentException") hown [⟨0, 14, 17, 19⟩] ⟨0, 14, 21, 34⟩ [⟨0, 14, 25, 21⟩, ⟨0, 14, 29, 13⟩] htab (List.forall_mem_cons.mpr ⟨Or.inr ⟨by decide, _, hts _ gv_635, hN 1 0 _ _ rfl rfl (by decide)⟩, (fun _ z => nomatch z)⟩) (by decide) (by decide) (hts _ gv_712) (hts _ gv_724) hcell hcv hcl ?_
        refine lv_astore (lv' := [(6, .ref q9), (0, .ref (G.2.1 0)), (1, .int a0), (2, .int a1), (3, .int a2), (4, .int a3), (5, .ref ho)]) hx hb dL_bind_21 hl (by decide) rfl (fun ls hl => ?_)
        refine lv_iconst (v := 2) hx hb dL_bind_23 (by decide) ?_
        exact W.widen (Nat.le_of_ble_eq_true rfl) (Nat.le_of_ble_eq_true rfl) (vx_ret (W.iret (v := 2) hx hb hr (fun t2 ht2 _ => ⟨⟨_, (), rfl, rfl, by rw [ht2]; exact hB2, by rw [ht2]; exact hPo1⟩, hS.F ht2⟩) hS.2.2 dL_bind_24 hlocks))
      · have hw := (if_neg c1).symm.trans hw
        by_cases c2 : E = "java/lang/UnsupportedOperationException"
        · have hw1 := (if_pos c2).symm.trans hw
          cases hw1
          subst c2
          refine vx_catch (name := "java/lang/UnsupportedOperationException") hown [⟨0, 14, 17, 19⟩, ⟨0, 14, 21, 34⟩] ⟨0, 14, 25, 21⟩ [⟨0, 14, 29, 13⟩] htab (List.forall_mem_cons.mpr ⟨Or.inr ⟨by decide, _, hts _ gv_635, hN 2 0 _ _ rfl rfl (by decide)⟩, (List.forall_mem_cons.mpr ⟨Or.inr ⟨by decide, _, hts _ gv_712, hN 2 1 _ _ rfl rfl (by decide)⟩, (fun _ z => nomatch z)⟩)⟩) (by decide) (by decide) (hts _ gv_636) (hts _ gv_671) hcell hcv hcl ?_
          refine lv_astore (lv' := [(6, .ref q9), (0, .ref (G.2.1 0)), (1, .int a0), (2, .int a1), (3, .int a2), (4, .int a3), (5, .ref ho)]) hx hb dL_bind_25 hl (by decide) rfl (fun ls hl => ?_)
          refine lv_iconst (v := 3) hx hb dL_bind_27 (by decide) ?_
          exact W.widen (Nat.le_of_ble_eq_true rfl) (Nat.le_of_ble_eq_true rfl) (vx_ret (W.iret (v := 3) hx hb hr (fun t2 ht2 _ => ⟨⟨_, (), rfl, rfl, by rw [ht2]; exact hB2, by rw [ht2]; exact hPo1⟩, hS.F ht2⟩) hS.2.2 dL_bind_28 hlocks))
        · have hw := (if_neg c2).symm.trans hw
          by_cases c3 : E = "java/lang/IllegalStateException"
          · have hw1 := (if_pos c3).symm.trans hw
            cases hw1
            subst c3
            refine vx_catch (name := "java/lang/IllegalStateException") hown [⟨0, 14, 17, 19⟩, ⟨0, 14, 21, 34⟩, ⟨0, 14, 25, 21⟩] ⟨0, 14, 29, 13⟩ [] htab (List.forall_mem_cons.mpr ⟨Or.inr ⟨by decide, _, hts _ gv_635, hN 3 0 _ _ rfl rfl (by decide)⟩, (List.forall_mem_cons.mpr ⟨Or.inr ⟨by decide, _, hts _ gv_712, hN 3 1 _ _ rfl rfl (by decide)⟩, (List.forall_mem_cons.mpr ⟨Or.inr ⟨by decide, _, hts _ gv_636, hN 3 2 _ _ rfl rfl (by decide)⟩, (fun _ z => nomatch z)⟩)⟩)⟩) (by decide) (by decide) (hts _ gv_552) (hts _ gv_559) hcell hcv hcl ?_
            refine lv_astore (lv' := [(6, .ref q9), (0, .ref (G.2.1 0)), (1, .int a0), (2, .int a1), (3, .int a2), (4, .int a3), (5, .ref ho)]) hx hb dL_bind_29 hl (by decide) rfl (fun ls hl => ?_)
            refine lv_iconst (v := 4) hx hb dL_bind_31 (by decide) ?_
            exact W.widen (Nat.le_of_ble_eq_true rfl) (Nat.le_of_ble_eq_true rfl) (vx_ret (W.iret (v := 4) hx hb hr (fun t2 ht2 _ => ⟨⟨_, (), rfl, rfl, by rw [ht2]; exact hB2, by rw [ht2]; exact hPo1⟩, hS.F ht2⟩) hS.2.2 dL_bind_32 hlocks))
          · have hw := (if_neg c3).symm.trans hw
            exact nomatch hw
  · subst hp
    subst ht
    have hPo1 := lo_kept hPo hap hk
    have hPJ := lo_PJ hB hPo1
    refine lv_i2l hx hb dL_bind_12 rfl ?_
    refine va_last (D := G.1) (x := v.toInt64) hx hb hKo hPJ (lo_DJ hT.1 hap s.heap.size u _) hS 38 0 (n := 1) (i := 0) (f := f) rfl rfl (by unfold vp_in; decide) dL_bind_13 (fun H2 locs2 hP2 _ hS => ?_)
    have hP2 : va_P G.1 vwCl (gw_W G u ++ [(ho, .inl (cL, 1, .inr (.inl (vp_updL f (0 : Int32).toNatClampNeg v.toInt64))))]) H2 := hP2
    have hw1 : some ((0 : Int32), vp_updL f (0 : Int32).toNatClampNeg v.toInt64) = some (r, f2) := hw
    cases hw1
    refine lv_goto (tgt := 33) hx hb dL_bind_14 (by decide) ?_
    refine lv_iconst (v := 0) hx hb dL_bind_33 (by decide) ?_
    exact W.widen (Nat.le_of_ble_eq_true rfl) (Nat.le_of_ble_eq_true rfl) (vx_ret (W.iret (v := 0) hx hb hr (fun t2 ht2 _ => ⟨⟨_, (), rfl, rfl, by rw [ht2]; exact lo_PL hP2, by rw [ht2]; exact lo_PR hP2⟩, hS.F ht2⟩) hS.2.2 dL_bind_34 hlocks))
def w_free (f : Nat → Int64) (o : (Int32 ⊕ String)) : Option (Int32 × (Nat → Int64)) := match o with
  | .inl v => some (0, vp_updL f (0 : Int32).toNatClampNeg (v : Int32).toInt64)
  | .inr E => (if E = "java/lang/IndexOutOfBoundsException" then some (1, f) else none)
set_option maxHeartbeats 4000000 in
set_option maxRecDepth 100000 in
theorem gl_free (l : Launch) (hfl : l.stackTraces = false) (G : gw_G) (a0 : Int32) (cL : ClassId) (ho : Nat) (f f2 : Nat → Int64) (r : Int32) (σ : gw_S) (o : (Int32 ⊕ String) × gw_S) (h : f_X8_free a0 σ = some o) (hw : w_free f o.1 = some (r, f2)) : ∀ sz : Nat, vx_Met l yL_free (.codeWith yL_free cL_free 4 (some .int) [(0, 9, 12, 19)] :: gw_L) { frames := 8, cells := 1, slots := 6 * 1, locals := 124 } (va_Pc [.ref (G.2.1 0), .int a0, .ref ho] (lo_Pre G .long cL ho (.inl (cL, 1, .inr (.inl f))) sz σ)) (lo_Q G ho r o.2 (.inl (cL, 1, .inr (.inl f2))) sz) (lo_XC G ho sz) 1 (6 * 1) (lo_A G ho sz) := by
  refine gl_en (own := RL) (lv := [(0, .ref (G.2.1 0)), (1, .int a0), (2, .ref ho)]) (by decide +kernel) rfl (Nat.le_of_ble_eq_true rfl) rfl ?_
  intro p e s m below meth c ls X hr hlocks htab hl hpre
  obtain ⟨hx, hb, hml, hown, hts, hT, hZ⟩ := id X
  obtain ⟨-, hP, hPo, -, -, hKo, hN, hap⟩ := hpre
  have hS : va_S (lo_A G ho s.heap.size) s.heap s.heap [] := va_S.rf
  refine lv_aload_n hx hb dL_free_0 rfl (lv_at hl 2 rfl) ?_
  refine lv_iconst (v := 0) hx hb dL_free_1 (by decide) ?_
  refine lv_aload_n hx hb dL_free_2 rfl (lv_at hl 0 rfl) ?_
  refine lv_iload_n hx hb dL_free_3 rfl (lv_at hl 1 rfl) ?_
  refine vx_calli (gl_xV (C := RX8) X hP hS (fun q z => Or.inl z) (gc_X8_free l hfl G a0 σ _ h) gk_X8_free gv_1030 ⟨gv_1031, gv_1032⟩ (va_recv hT.2.1 hP (ci := 10) (q0 := 0) rfl rfl) rfl rfl (Nat.le_of_ble_eq_true rfl) hl.1 ⟨rfl, rfl⟩ ⟨Nat.le_of_ble_eq_true rfl, Nat.le_of_ble_eq_true rfl⟩ ⟨Nat.le_of_ble_eq_true rfl, Nat.le_of_ble_eq_true rfl⟩ dL_free_4) hS (fun q _ z => Or.inl z) (fun q z => Or.inl z) (fun q _ z => Or.inl z) (fun E ce q9 u t H1 locs1 ht hvm hp hB hz hk hS hcell hcv hcl => ?_) (fun v u t H1 locs1 ht hvm hp hB hz hk hS => ?_)
  · obtain ⟨hB1, hB2⟩ := hB
    subst hB1
    subst ht
    have hPo1 := lo_kept hPo hap hk
    have hw : ((if E = "java/lang/IndexOutOfBoundsException" then some (1, f) else none) : Option (Int32 × (Nat → Int64))) = some (r, f2) := hw
    by_cases c0 : E = "java/lang/IndexOutOfBoundsException"
    · have hw1 := (if_pos c0).symm.trans hw
      cases hw1
      subst c0
      refine vx_catch (name := "java/lang/IndexOutOfBoundsException") hown [] ⟨0, 9, 12, 19⟩ [] htab (fun _ z => nomatch z) (by decide) (by decide) (hts _ gv_635) (hts _ gv_655) hcell hcv hcl ?_
      refine lv_astore_n (lv' := [(3, .ref q9), (0, .ref (G.2.1 0)), (1, .int a0), (2, .ref ho)]) hx hb dL_free_12 rfl hl (by decide) rfl (fun ls hl => ?_)
      refine lv_iconst (v := 1) hx hb dL_free_13 (by decide) ?_
      exact W.widen (Nat.le_of_ble_eq_true rfl) (Nat.le_of_ble_eq_true rfl) (vx_ret (W.iret (v := 1) hx hb hr (fun t2 ht2 _ => ⟨⟨_, (), rfl, rfl, by rw [ht2]; exact hB2, by rw [ht2]; exact hPo1⟩, hS.F ht2⟩) hS.2.2 dL_free_14 hlocks))
    · have hw := (if_neg c0).symm.trans hw
      exact nomatch hw
  · subst hp
    subst ht
    have hPo1 := lo_kept hPo hap hk
    have hPJ := lo_PJ hB hPo1
    refine lv_i2l hx hb dL_free_7 rfl ?_
    refine va_last (D := G.1) (x := v.toInt64) hx hb hKo hPJ (lo_DJ hT.1 hap s.heap.size u _) hS 38 0 (n := 1) (i := 0) (f := f) rfl rfl (by unfold vp_in; decide) dL_free_8 (fun H2 locs2 hP2 _ hS => ?_)
    have hP2 : va_P G.1 vwCl (gw_W G u ++ [(ho, .inl (cL, 1, .inr (.inl (vp_updL f (0 : Int32).toNatClampNeg v.toInt64))))]) H2 := hP2
    have hw1 : some ((0 : Int32), vp_updL f (0 : Int32).toNatClampNeg v.toInt64) = some (r, f2) := hw
    cases hw1
    refine lv_goto (tgt := 15) hx hb dL_free_9 (by decide) ?_
    refine lv_iconst (v := 0) hx hb dL_free_15 (by decide) ?_
    exact W.widen (Nat.le_of_ble_eq_true rfl) (Nat.le_of_ble_eq_true rfl) (vx_ret (W.iret (v := 0) hx hb hr (fun t2 ht2 _ => ⟨⟨_, (), rfl, rfl, by rw [ht2]; exact lo_PL hP2, by rw [ht2]; exact lo_PR hP2⟩, hS.F ht2⟩) hS.2.2 dL_free_16 hlocks))
def w_value (f : Nat → Int64) (o : (Int32 ⊕ String)) : Option (Int32 × (Nat → Int64)) := match o with
  | .inl v => some (0, vp_updL f (0 : Int32).toNatClampNeg (v : Int32).toInt64)
  | .inr E => (if E = "java/lang/IndexOutOfBoundsException" then some (1, f) else (if E = "java/lang/UnsupportedOperationException" then some (2, f) else none))
set_option maxHeartbeats 4000000 in
set_option maxRecDepth 100000 in
theorem gl_value (l : Launch) (hfl : l.stackTraces = false) (G : gw_G) (a0 : Int32) (cL : ClassId) (ho : Nat) (f f2 : Nat → Int64) (r : Int32) (σ : gw_S) (o : (Int32 ⊕ String) × gw_S) (h : f_X8_value a0 σ = some o) (hw : w_value f o.1 = some (r, f2)) : ∀ sz : Nat, vx_Met l yL_value (.codeWith yL_value cL_value 4 (some .int) [(0, 9, 12, 19), (0, 9, 15, 21)] :: gw_L) { frames := 302, cells := 2, slots := 6 * 2, locals := 5042 } (va_Pc [.ref (G.2.1 0), .int a0, .ref ho] (lo_Pre G .long cL ho (.inl (cL, 1, .inr (.inl f))) sz σ)) (lo_Q G ho r o.2 (.inl (cL, 1, .inr (.inl f2))) sz) (lo_XC G ho sz) 2 (6 * 2) (lo_A G ho sz) := by
  refine gl_en (own := RL) (lv := [(0, .ref (G.2.1 0)), (1, .int a0), (2, .ref ho)]) (by decide +kernel) rfl (Nat.le_of_ble_eq_true rfl) rfl ?_
  intro p e s m below meth c ls X hr hlocks htab hl hpre
  obtain ⟨hx, hb, hml, hown, hts, hT, hZ⟩ := id X
  obtain ⟨-, hP, hPo, -, -, hKo, hN, hap⟩ := hpre
  have hS : va_S (lo_A G ho s.heap.size) s.heap s.heap [] := va_S.rf
  refine lv_aload_n hx hb dL_value_0 rfl (lv_at hl 2 rfl) ?_
  refine lv_iconst (v := 0) hx hb dL_value_1 (by decide) ?_
  refine lv_aload_n hx hb dL_value_2 rfl (lv_at hl 0 rfl) ?_
  refine lv_iload_n hx hb dL_value_3 rfl (lv_at hl 1 rfl) ?_
  refine vx_calli (gl_xV (C := RX8) X hP hS (fun q z => Or.inl z) (gc_X8_value l hfl G a0 σ _ h) gk_X8_value gv_1037 ⟨gv_1038, gv_1039⟩ (va_recv hT.2.1 hP (ci := 10) (q0 := 0) rfl rfl) rfl rfl (Nat.le_of_ble_eq_true rfl) hl.1 ⟨rfl, rfl⟩ ⟨Nat.le_of_ble_eq_true rfl, Nat.le_of_ble_eq_true rfl⟩ ⟨Nat.le_of_ble_eq_true rfl, Nat.le_of_ble_eq_true rfl⟩ dL_value_4) hS (fun q _ z => Or.inl z) (fun q z => Or.inl z) (fun q _ z => Or.inl z) (fun E ce q9 u t H1 locs1 ht hvm hp hB hz hk hS hcell hcv hcl => ?_) (fun v u t H1 locs1 ht hvm hp hB hz hk hS => ?_)
  · obtain ⟨hB1, hB2⟩ := hB
    subst hB1
    subst ht
    have hPo1 := lo_kept hPo hap hk
    have hw : ((if E = "java/lang/IndexOutOfBoundsException" then some (1, f) else (if E = "java/lang/UnsupportedOperationException" then some (2, f) else none)) : Option (Int32 × (Nat → Int64))) = some (r, f2) := hw
    by_cases c0 : E = "java/lang/IndexOutOfBoundsException"
    · have hw1 := (if_pos c0).symm.trans hw
      cases hw1
      subst c0
      refine vx_catch (name := "java/lang/IndexOutOfBoundsException") hown [] ⟨0, 9, 12, 19⟩ [⟨0, 9, 15, 21⟩] htab (fun _ z => nomatch z) (by decide) (by decide) (hts _ gv_635) (hts _ gv_655) hcell hcv hcl ?_
      refine lv_astore_n (lv' := [(3, .ref q9), (0, .ref (G.2.1 0)), (1, .int a0), (2, .ref ho)]) hx hb dL_value_12 rfl hl (by decide) rfl (fun ls hl => ?_)
      refine lv_iconst (v := 1) hx hb dL_value_13 (by decide) ?_
      exact W.widen (Nat.le_of_ble_eq_true rfl) (Nat.le_of_ble_eq_true rfl) (vx_ret (W.iret (v := 1) hx hb hr (fun t2 ht2 _ => ⟨⟨_, (), rfl, rfl, by rw [ht2]; exact hB2, by rw [ht2]; exact hPo1⟩, hS.F ht2⟩) hS.2.2 dL_value_14 hlocks))
    · have hw := (if_neg c0).symm.trans hw
      by_cases c1 : E = "java/lang/UnsupportedOperationException"
      · have hw1 := (if_pos c1).symm.trans hw
        cases hw1
        subst c1
        refine vx_catch (name := "java/lang/UnsupportedOperationException") hown [⟨0, 9, 12, 19⟩] ⟨0, 9, 15, 21⟩ [] htab (List.forall_mem_cons.mpr ⟨Or.inr ⟨by decide, _, hts _ gv_635, hN 2 0 _ _ rfl rfl (by decide)⟩, (fun _ z => nomatch z)⟩) (by decide) (by decide) (hts _ gv_636) (hts _ gv_671) hcell hcv hcl ?_
        refine lv_astore_n (lv' := [(3, .ref q9), (0, .ref (G.2.1 0)), (1, .int a0), (2, .ref ho)]) hx hb dL_value_15 rfl hl (by decide) rfl (fun ls hl => ?_)
        refine lv_iconst (v := 2) hx hb dL_value_16 (by decide) ?_
        exact W.widen (Nat.le_of_ble_eq_true rfl) (Nat.le_of_ble_eq_true rfl) (vx_ret (W.iret (v := 2) hx hb hr (fun t2 ht2 _ => ⟨⟨_, (), rfl, rfl, by rw [ht2]; exact hB2, by rw [ht2]; exact hPo1⟩, hS.F ht2⟩) hS.2.2 dL_value_17 hlocks))
      · have hw := (if_neg c1).symm.trans hw
        exact nomatch hw
  · subst hp
    subst ht
    have hPo1 := lo_kept hPo hap hk
    have hPJ := lo_PJ hB hPo1
    refine lv_i2l hx hb dL_value_7 rfl ?_
    refine va_last (D := G.1) (x := v.toInt64) hx hb hKo hPJ (lo_DJ hT.1 hap s.heap.size u _) hS 38 0 (n := 1) (i := 0) (f := f) rfl rfl (by unfold vp_in; decide) dL_value_8 (fun H2 locs2 hP2 _ hS => ?_)
    have hP2 : va_P G.1 vwCl (gw_W G u ++ [(ho, .inl (cL, 1, .inr (.inl (vp_updL f (0 : Int32).toNatClampNeg v.toInt64))))]) H2 := hP2
    have hw1 : some ((0 : Int32), vp_updL f (0 : Int32).toNatClampNeg v.toInt64) = some (r, f2) := hw
    cases hw1
    refine lv_goto (tgt := 18) hx hb dL_value_9 (by decide) ?_
    refine lv_iconst (v := 0) hx hb dL_value_18 (by decide) ?_
    exact W.widen (Nat.le_of_ble_eq_true rfl) (Nat.le_of_ble_eq_true rfl) (vx_ret (W.iret (v := 0) hx hb hr (fun t2 ht2 _ => ⟨⟨_, (), rfl, rfl, by rw [ht2]; exact lo_PL hP2, by rw [ht2]; exact lo_PR hP2⟩, hS.F ht2⟩) hS.2.2 dL_value_19 hlocks))
def w_forces (f : Nat → Int64) (o : (Int32 ⊕ String)) : Option (Int32 × (Nat → Int64)) := match o with
  | .inl v => some (0, vp_updL f (0 : Int32).toNatClampNeg (if (v : Int32) = 0 then (0 : Int64) else (1 : Int64)))
  | .inr E => (if E = "java/lang/IndexOutOfBoundsException" then some (1, f) else (if E = "java/lang/UnsupportedOperationException" then some (2, f) else none))
set_option maxHeartbeats 4000000 in
set_option maxRecDepth 100000 in
theorem gl_forces (l : Launch) (hfl : l.stackTraces = false) (G : gw_G) (a0 : Int32) (a1 : Int32) (cL : ClassId) (ho : Nat) (f f2 : Nat → Int64) (r : Int32) (σ : gw_S) (o : (Int32 ⊕ String) × gw_S) (h : f_X8_forces a0 a1 σ = some o) (hw : w_forces f o.1 = some (r, f2)) : ∀ sz : Nat, vx_Met l yL_forces (.codeWith yL_forces cL_forces 5 (some .int) [(0, 17, 20, 19), (0, 17, 24, 21)] :: gw_L) { frames := 302, cells := 3, slots := 6 * 3, locals := 5043 } (va_Pc [.ref (G.2.1 0), .int a0, .int a1, .ref ho] (lo_Pre G .long cL ho (.inl (cL, 1, .inr (.inl f))) sz σ)) (lo_Q G ho r o.2 (.inl (cL, 1, .inr (.inl f2))) sz) (lo_XC G ho sz) 3 (6 * 3) (lo_A G ho sz) := by
  refine gl_en (own := RL) (lv := [(0, .ref (G.2.1 0)), (1, .int a0), (2, .int a1), (3, .ref ho)]) (by decide +kernel) rfl (Nat.le_of_ble_eq_true rfl) rfl ?_
  intro p e s m below meth c ls X hr hlocks htab hl hpre
  obtain ⟨hx, hb, hml, hown, hts, hT, hZ⟩ := id X
  obtain ⟨-, hP, hPo, -, -, hKo, hN, hap⟩ := hpre
  have hS : va_S (lo_A G ho s.heap.size) s.heap s.heap [] := va_S.rf
  refine lv_aload_n hx hb dL_forces_0 rfl (lv_at hl 3 rfl) ?_
  refine lv_iconst (v := 0) hx hb dL_forces_1 (by decide) ?_
  refine lv_aload_n hx hb dL_forces_2 rfl (lv_at hl 0 rfl) ?_
  refine lv_iload_n hx hb dL_forces_3 rfl (lv_at hl 1 rfl) ?_
  refine lv_iload_n hx hb dL_forces_4 rfl (lv_at hl 2 rfl) ?_
  refine vx_calli (gl_xV (C := RX8) X hP hS (fun q z => Or.inl z) (gc_X8_forces l hfl G a0 a1 σ _ h) gk_X8_forces gv_1049 ⟨gv_1050, gv_1051⟩ (va_recv hT.2.1 hP (ci := 10) (q0 := 0) rfl rfl) rfl rfl (Nat.le_of_ble_eq_true rfl) hl.1 ⟨rfl, rfl⟩ ⟨Nat.le_of_ble_eq_true rfl, Nat.le_of_ble_eq_true rfl⟩ ⟨Nat.le_of_ble_eq_true rfl, Nat.le_of_ble_eq_true rfl⟩ dL_forces_5) hS (fun q _ z => Or.inl z) (fun q z => Or.inl z) (fun q _ z => Or.inl z) (fun E ce q9 u t H1 locs1 ht hvm hp hB hz hk hS hcell hcv hcl => ?_) (fun v u t H1 locs1 ht hvm hp hB hz hk hS => ?_)
  · obtain ⟨hB1, hB2⟩ := hB
    subst hB1
    subst ht
    have hPo1 := lo_kept hPo hap hk
    have hw : ((if E = "java/lang/IndexOutOfBoundsException" then some (1, f) else (if E = "java/lang/UnsupportedOperationException" then some (2, f) else none)) : Option (Int32 × (Nat → Int64))) = some (r, f2) := hw
    by_cases c0 : E = "java/lang/IndexOutOfBoundsException"
    · have hw1 := (if_pos c0).symm.trans hw
      cases hw1
      subst c0
      refine vx_catch (name := "java/lang/IndexOutOfBoundsException") hown [] ⟨0, 17, 20, 19⟩ [⟨0, 17, 24, 21⟩] htab (fun _ z => nomatch z) (by decide) (by decide) (hts _ gv_635) (hts _ gv_655) hcell hcv hcl ?_
      refine lv_astore (lv' := [(4, .ref q9), (0, .ref (G.2.1 0)), (1, .int a0), (2, .int a1), (3, .ref ho)]) hx hb dL_forces_20 hl (by decide) rfl (fun ls hl => ?_)
      refine lv_iconst (v := 1) hx hb dL_forces_22 (by decide) ?_
      exact W.widen (Nat.le_of_ble_eq_true rfl) (Nat.le_of_ble_eq_true rfl) (vx_ret (W.iret (v := 1) hx hb hr (fun t2 ht2 _ => ⟨⟨_, (), rfl, rfl, by rw [ht2]; exact hB2, by rw [ht2]; exact hPo1⟩, hS.F ht2⟩) hS.2.2 dL_forces_23 hlocks))
    · have hw := (if_neg c0).symm.trans hw
      by_cases c1 : E = "java/lang/UnsupportedOperationException"
      · have hw1 := (if_pos c1).symm.trans hw
        cases hw1
        subst c1
        refine vx_catch (name := "java/lang/UnsupportedOperationException") hown [⟨0, 17, 20, 19⟩] ⟨0, 17, 24, 21⟩ [] htab (List.forall_mem_cons.mpr ⟨Or.inr ⟨by decide, _, hts _ gv_635, hN 2 0 _ _ rfl rfl (by decide)⟩, (fun _ z => nomatch z)⟩) (by decide) (by decide) (hts _ gv_636) (hts _ gv_671) hcell hcv hcl ?_
        refine lv_astore (lv' := [(4, .ref q9), (0, .ref (G.2.1 0)), (1, .int a0), (2, .int a1), (3, .ref ho)]) hx hb dL_forces_24 hl (by decide) rfl (fun ls hl => ?_)
        refine lv_iconst (v := 2) hx hb dL_forces_26 (by decide) ?_
        exact W.widen (Nat.le_of_ble_eq_true rfl) (Nat.le_of_ble_eq_true rfl) (vx_ret (W.iret (v := 2) hx hb hr (fun t2 ht2 _ => ⟨⟨_, (), rfl, rfl, by rw [ht2]; exact hB2, by rw [ht2]; exact hPo1⟩, hS.F ht2⟩) hS.2.2 dL_forces_27 hlocks))
      · have hw := (if_neg c1).symm.trans hw
        exact nomatch hw
  · obtain ⟨hp, -⟩ := hp
    subst hp
    subst ht
    have hPo1 := lo_kept hPo hap hk
    have hPJ := lo_PJ hB hPo1
    refine lv_if_eq (tgt := 15) hx hb dL_forces_8 (by decide) (fun c => ?_) (fun c => ?_)
    · refine lv_lconst (v := 0) hx hb dL_forces_15 (by decide) ?_
      refine va_last (D := G.1) (x := (0 : Int64)) hx hb hKo hPJ (lo_DJ hT.1 hap s.heap.size u _) hS 38 0 (n := 1) (i := 0) (f := f) rfl rfl (by unfold vp_in; decide) dL_forces_16 (fun H2 locs2 hP2 _ hS => ?_)
      have hP2 : va_P G.1 vwCl (gw_W G u ++ [(ho, .inl (cL, 1, .inr (.inl (vp_updL f (0 : Int32).toNatClampNeg (0 : Int64)))))]) H2 := hP2
      have hw1 : some ((0 : Int32), vp_updL f (0 : Int32).toNatClampNeg (0 : Int64)) = some (r, f2) := by rw [show (0 : Int64) = (if v = 0 then (0 : Int64) else (1 : Int64)) from (if_pos c).symm]; exact hw
      cases hw1
      refine lv_goto (tgt := 28) hx hb dL_forces_17 (by decide) ?_
      refine lv_iconst (v := 0) hx hb dL_forces_28 (by decide) ?_
      exact W.widen (Nat.le_of_ble_eq_true rfl) (Nat.le_of_ble_eq_true rfl) (vx_ret (W.iret (v := 0) hx hb hr (fun t2 ht2 _ => ⟨⟨_, (), rfl, rfl, by rw [ht2]; exact lo_PL hP2, by rw [ht2]; exact lo_PR hP2⟩, hS.F ht2⟩) hS.2.2 dL_forces_29 hlocks))
    · refine lv_lconst (v := 1) hx hb dL_forces_11 (by decide) ?_
      refine lv_goto (tgt := 16) hx hb dL_forces_12 (by decide) ?_
      refine va_last (D := G.1) (x := (1 : Int64)) hx hb hKo hPJ (lo_DJ hT.1 hap s.heap.size u _) hS 38 0 (n := 1) (i := 0) (f := f) rfl rfl (by unfold vp_in; decide) dL_forces_16 (fun H2 locs2 hP2 _ hS => ?_)
      have hP2 : va_P G.1 vwCl (gw_W G u ++ [(ho, .inl (cL, 1, .inr (.inl (vp_updL f (0 : Int32).toNatClampNeg (1 : Int64)))))]) H2 := hP2
      have hw1 : some ((0 : Int32), vp_updL f (0 : Int32).toNatClampNeg (1 : Int64)) = some (r, f2) := by rw [show (1 : Int64) = (if v = 0 then (0 : Int64) else (1 : Int64)) from (if_neg c).symm]; exact hw
      cases hw1
      refine lv_goto (tgt := 28) hx hb dL_forces_17 (by decide) ?_
      refine lv_iconst (v := 0) hx hb dL_forces_28 (by decide) ?_
      exact W.widen (Nat.le_of_ble_eq_true rfl) (Nat.le_of_ble_eq_true rfl) (vx_ret (W.iret (v := 0) hx hb hr (fun t2 ht2 _ => ⟨⟨_, (), rfl, rfl, by rw [ht2]; exact lo_PL hP2, by rw [ht2]; exact lo_PR hP2⟩, hS.F ht2⟩) hS.2.2 dL_forces_29 hlocks))
def w_weakly (f : Nat → Int64) (o : (Int32 ⊕ String)) : Option (Int32 × (Nat → Int64)) := match o with
  | .inl v => some (0, vp_updL f (0 : Int32).toNatClampNeg (if (v : Int32) = 0 then (0 : Int64) else (1 : Int64)))
  | .inr E => (if E = "java/lang/IndexOutOfBoundsException" then some (1, f) else (if E = "java/lang/UnsupportedOperationException" then some (2, f) else none))
set_option maxHeartbeats 4000000 in
set_option maxRecDepth 100000 in
theorem gl_weakly (l : Launch) (hfl : l.stackTraces = false) (G : gw_G) (a0 : Int32) (a1 : Int32) (cL : ClassId) (ho : Nat) (f f2 : Nat → Int64) (r : Int32) (σ : gw_S) (o : (Int32 ⊕ String) × gw_S) (h : f_X8_weakly a0 a1 σ = some o) (hw : w_weakly f o.1 = some (r, f2)) : ∀ sz : Nat, vx_Met l yL_weakly (.codeWith yL_weakly cL_weakly 5 (some .int) [(0, 17, 20, 19), (0, 17, 24, 21)] :: gw_L) { frames := 302, cells := 3, slots := 6 * 3, locals := 5043 } (va_Pc [.ref (G.2.1 0), .int a0, .int a1, .ref ho] (lo_Pre G .long cL ho (.inl (cL, 1, .inr (.inl f))) sz σ)) (lo_Q G ho r o.2 (.inl (cL, 1, .inr (.inl f2))) sz) (lo_XC G ho sz) 3 (6 * 3) (lo_A G ho sz) := by
  refine gl_en (own := RL) (lv := [(0, .ref (G.2.1 0)), (1, .int a0), (2, .int a1), (3, .ref ho)]) (by decide +kernel) rfl (Nat.le_of_ble_eq_true rfl) rfl ?_
  intro p e s m below meth c ls X hr hlocks htab hl hpre
  obtain ⟨hx, hb, hml, hown, hts, hT, hZ⟩ := id X
  obtain ⟨-, hP, hPo, -, -, hKo, hN, hap⟩ := hpre
  have hS : va_S (lo_A G ho s.heap.size) s.heap s.heap [] := va_S.rf
  refine lv_aload_n hx hb dL_weakly_0 rfl (lv_at hl 3 rfl) ?_
  refine lv_iconst (v := 0) hx hb dL_weakly_1 (by decide) ?_
  refine lv_aload_n hx hb dL_weakly_2 rfl (lv_at hl 0 rfl) ?_
  refine lv_iload_n hx hb dL_weakly_3 rfl (lv_at hl 1 rfl) ?_
  refine lv_iload_n hx hb dL_weakly_4 rfl (lv_at hl 2 rfl) ?_
  refine vx_calli (gl_xV (C := RX8) X hP hS (fun q z => Or.inl z) (gc_X8_weakly l hfl G a0 a1 σ _ h) gk_X8_weakly gv_1056 ⟨gv_1057, gv_1058⟩ (va_recv hT.2.1 hP (ci := 10) (q0 := 0) rfl rfl) rfl rfl (Nat.le_of_ble_eq_true rfl) hl.1 ⟨rfl, rfl⟩ ⟨Nat.le_of_ble_eq_true rfl, Nat.le_of_ble_eq_true rfl⟩ ⟨Nat.le_of_ble_eq_true rfl, Nat.le_of_ble_eq_true rfl⟩ dL_weakly_5) hS (fun q _ z => Or.inl z) (fun q z => Or.inl z) (fun q _ z => Or.inl z) (fun E ce q9 u t H1 locs1 ht hvm hp hB hz hk hS hcell hcv hcl => ?_) (fun v u t H1 locs1 ht hvm hp hB hz hk hS => ?_)
  · obtain ⟨hB1, hB2⟩ := hB
    subst hB1
    subst ht
    have hPo1 := lo_kept hPo hap hk
    have hw : ((if E = "java/lang/IndexOutOfBoundsException" then some (1, f) else (if E = "java/lang/UnsupportedOperationException" then some (2, f) else none)) : Option (Int32 × (Nat → Int64))) = some (r, f2) := hw
    by_cases c0 : E = "java/lang/IndexOutOfBoundsException"
    · have hw1 := (if_pos c0).symm.trans hw
      cases hw1
      subst c0
      refine vx_catch (name := "java/lang/IndexOutOfBoundsException") hown [] ⟨0, 17, 20, 19⟩ [⟨0, 17, 24, 21⟩] htab (fun _ z => nomatch z) (by decide) (by decide) (hts _ gv_635) (hts _ gv_655) hcell hcv hcl ?_
      refine lv_astore (lv' := [(4, .ref q9), (0, .ref (G.2.1 0)), (1, .int a0), (2, .int a1), (3, .ref ho)]) hx hb dL_weakly_20 hl (by decide) rfl (fun ls hl => ?_)
      refine lv_iconst (v := 1) hx hb dL_weakly_22 (by decide) ?_
      exact W.widen (Nat.le_of_ble_eq_true rfl) (Nat.le_of_ble_eq_true rfl) (vx_ret (W.iret (v := 1) hx hb hr (fun t2 ht2 _ => ⟨⟨_, (), rfl, rfl, by rw [ht2]; exact hB2, by rw [ht2]; exact hPo1⟩, hS.F ht2⟩) hS.2.2 dL_weakly_23 hlocks))
    · have hw := (if_neg c0).symm.trans hw
      by_cases c1 : E = "java/lang/UnsupportedOperationException"
      · have hw1 := (if_pos c1).symm.trans hw
        cases hw1
        subst c1
        refine vx_catch (name := "java/lang/UnsupportedOperationException") hown [⟨0, 17, 20, 19⟩] ⟨0, 17, 24, 21⟩ [] htab (List.forall_mem_cons.mpr ⟨Or.inr ⟨by decide, _, hts _ gv_635, hN 2 0 _ _ rfl rfl (by decide)⟩, (fun _ z => nomatch z)⟩) (by decide) (by decide) (hts _ gv_636) (hts _ gv_671) hcell hcv hcl ?_
        refine lv_astore (lv' := [(4, .ref q9), (0, .ref (G.2.1 0)), (1, .int a0), (2, .int a1), (3, .ref ho)]) hx hb dL_weakly_24 hl (by decide) rfl (fun ls hl => ?_)
        refine lv_iconst (v := 2) hx hb dL_weakly_26 (by decide) ?_
        exact W.widen (Nat.le_of_ble_eq_true rfl) (Nat.le_of_ble_eq_true rfl) (vx_ret (W.iret (v := 2) hx hb hr (fun t2 ht2 _ => ⟨⟨_, (), rfl, rfl, by rw [ht2]; exact hB2, by rw [ht2]; exact hPo1⟩, hS.F ht2⟩) hS.2.2 dL_weakly_27 hlocks))
      · have hw := (if_neg c1).symm.trans hw
        exact nomatch hw
  · obtain ⟨hp, -⟩ := hp
    subst hp
    subst ht
    have hPo1 := lo_kept hPo hap hk
    have hPJ := lo_PJ hB hPo1
    refine lv_if_eq (tgt := 15) hx hb dL_weakly_8 (by decide) (fun c => ?_) (fun c => ?_)
    · refine lv_lconst (v := 0) hx hb dL_weakly_15 (by decide) ?_
      refine va_last (D := G.1) (x := (0 : Int64)) hx hb hKo hPJ (lo_DJ hT.1 hap s.heap.size u _) hS 38 0 (n := 1) (i := 0) (f := f) rfl rfl (by unfold vp_in; decide) dL_weakly_16 (fun H2 locs2 hP2 _ hS => ?_)
      have hP2 : va_P G.1 vwCl (gw_W G u ++ [(ho, .inl (cL, 1, .inr (.inl (vp_updL f (0 : Int32).toNatClampNeg (0 : Int64)))))]) H2 := hP2
      have hw1 : some ((0 : Int32), vp_updL f (0 : Int32).toNatClampNeg (0 : Int64)) = some (r, f2) := by rw [show (0 : Int64) = (if v = 0 then (0 : Int64) else (1 : Int64)) from (if_pos c).symm]; exact hw
      cases hw1
      refine lv_goto (tgt := 28) hx hb dL_weakly_17 (by decide) ?_
      refine lv_iconst (v := 0) hx hb dL_weakly_28 (by decide) ?_
      exact W.widen (Nat.le_of_ble_eq_true rfl) (Nat.le_of_ble_eq_true rfl) (vx_ret (W.iret (v := 0) hx hb hr (fun t2 ht2 _ => ⟨⟨_, (), rfl, rfl, by rw [ht2]; exact lo_PL hP2, by rw [ht2]; exact lo_PR hP2⟩, hS.F ht2⟩) hS.2.2 dL_weakly_29 hlocks))
    · refine lv_lconst (v := 1) hx hb dL_weakly_11 (by decide) ?_
      refine lv_goto (tgt := 16) hx hb dL_weakly_12 (by decide) ?_
      refine va_last (D := G.1) (x := (1 : Int64)) hx hb hKo hPJ (lo_DJ hT.1 hap s.heap.size u _) hS 38 0 (n := 1) (i := 0) (f := f) rfl rfl (by unfold vp_in; decide) dL_weakly_16 (fun H2 locs2 hP2 _ hS => ?_)
      have hP2 : va_P G.1 vwCl (gw_W G u ++ [(ho, .inl (cL, 1, .inr (.inl (vp_updL f (0 : Int32).toNatClampNeg (1 : Int64)))))]) H2 := hP2
      have hw1 : some ((0 : Int32), vp_updL f (0 : Int32).toNatClampNeg (1 : Int64)) = some (r, f2) := by rw [show (1 : Int64) = (if v = 0 then (0 : Int64) else (1 : Int64)) from (if_neg c).symm]; exact hw
      cases hw1
      refine lv_goto (tgt := 28) hx hb dL_weakly_17 (by decide) ?_
      refine lv_iconst (v := 0) hx hb dL_weakly_28 (by decide) ?_
      exact W.widen (Nat.le_of_ble_eq_true rfl) (Nat.le_of_ble_eq_true rfl) (vx_ret (W.iret (v := 0) hx hb hr (fun t2 ht2 _ => ⟨⟨_, (), rfl, rfl, by rw [ht2]; exact lo_PL hP2, by rw [ht2]; exact lo_PR hP2⟩, hS.F ht2⟩) hS.2.2 dL_weakly_29 hlocks))
def w_holds (f : Nat → Int64) (o : (Int32 ⊕ String)) : Option (Int32 × (Nat → Int64)) := match o with
  | .inl v => some (0, vp_updL f (0 : Int32).toNatClampNeg (if (v : Int32) = 0 then (0 : Int64) else (1 : Int64)))
  | .inr E => (if E = "java/lang/IndexOutOfBoundsException" then some (1, f) else (if E = "java/lang/UnsupportedOperationException" then some (2, f) else (if E = "java/lang/IllegalArgumentException" then some (3, f) else none)))
set_option maxHeartbeats 4000000 in
set_option maxRecDepth 100000 in
theorem gl_holds (l : Launch) (hfl : l.stackTraces = false) (G : gw_G) (a0 : Int32) (a1 : Int32) (cL : ClassId) (ho : Nat) (f f2 : Nat → Int64) (r : Int32) (σ : gw_S) (o : (Int32 ⊕ String) × gw_S) (h : f_X8_holds a0 a1 σ = some o) (hw : w_holds f o.1 = some (r, f2)) : ∀ sz : Nat, vx_Met l yL_holds (.codeWith yL_holds cL_holds 5 (some .int) [(0, 17, 20, 19), (0, 17, 24, 21), (0, 17, 28, 34)] :: gw_L) { frames := 302, cells := 3, slots := 6 * 3, locals := 5043 } (va_Pc [.ref (G.2.1 0), .int a0, .int a1, .ref ho] (lo_Pre G .long cL ho (.inl (cL, 1, .inr (.inl f))) sz σ)) (lo_Q G ho r o.2 (.inl (cL, 1, .inr (.inl f2))) sz) (lo_XC G ho sz) 3 (6 * 3) (lo_A G ho sz) := by
  refine gl_en (own := RL) (lv := [(0, .ref (G.2.1 0)), (1, .int a0), (2, .int a1), (3, .ref ho)]) (by decide +kernel) rfl (Nat.le_of_ble_eq_true rfl) rfl ?_
  intro p e s m below meth c ls X hr hlocks htab hl hpre
  obtain ⟨hx, hb, hml, hown, hts, hT, hZ⟩ := id X
  obtain ⟨-, hP, hPo, -, -, hKo, hN, hap⟩ := hpre
  have hS : va_S (lo_A G ho s.heap.size) s.heap s.heap [] := va_S.rf
  refine lv_aload_n hx hb dL_holds_0 rfl (lv_at hl 3 rfl) ?_
  refine lv_iconst (v := 0) hx hb dL_holds_1 (by decide) ?_
  refine lv_aload_n hx hb dL_holds_2 rfl (lv_at hl 0 rfl) ?_
  refine lv_iload_n hx hb dL_holds_3 rfl (lv_at hl 1 rfl) ?_
  refine lv_iload_n hx hb dL_holds_4 rfl (lv_at hl 2 rfl) ?_
  refine vx_calli (gl_xV (C := RX8) X hP hS (fun q z => Or.inl z) (gc_X8_holds l hfl G a0 a1 σ _ h) gk_X8_holds gv_1063 ⟨gv_1064, gv_1065⟩ (va_recv hT.2.1 hP (ci := 10) (q0 := 0) rfl rfl) rfl rfl (Nat.le_of_ble_eq_true rfl) hl.1 ⟨rfl, rfl⟩ ⟨Nat.le_of_ble_eq_true rfl, Nat.le_of_ble_eq_true rfl⟩ ⟨Nat.le_of_ble_eq_true rfl, Nat.le_of_ble_eq_true rfl⟩ dL_holds_5) hS (fun q _ z => Or.inl z) (fun q z => Or.inl z) (fun q _ z => Or.inl z) (fun E ce q9 u t H1 locs1 ht hvm hp hB hz hk hS hcell hcv hcl => ?_) (fun v u t H1 locs1 ht hvm hp hB hz hk hS => ?_)
  · obtain ⟨hB1, hB2⟩ := hB
    subst hB1
    subst ht
    have hPo1 := lo_kept hPo hap hk
    have hw : ((if E = "java/lang/IndexOutOfBoundsException" then some (1, f) else (if E = "java/lang/UnsupportedOperationException" then some (2, f) else (if E = "java/lang/IllegalArgumentException" then some (3, f) else none))) : Option (Int32 × (Nat → Int64))) = some (r, f2) := hw
    by_cases c0 : E = "java/lang/IndexOutOfBoundsException"
    · have hw1 := (if_pos c0).symm.trans hw
      cases hw1
      subst c0
      refine vx_catch (name := "java/lang/IndexOutOfBoundsException") hown [] ⟨0, 17, 20, 19⟩ [⟨0, 17, 24, 21⟩, ⟨0, 17, 28, 34⟩] htab (fun _ z => nomatch z) (by decide) (by decide) (hts _ gv_635) (hts _ gv_655) hcell hcv hcl ?_
      refine lv_astore (lv' := [(4, .ref q9), (0, .ref (G.2.1 0)), (1, .int a0), (2, .int a1), (3, .ref ho)]) hx hb dL_holds_20 hl (by decide) rfl (fun ls hl => ?_)
      refine lv_iconst (v := 1) hx hb dL_holds_22 (by decide) ?_
      exact W.widen (Nat.le_of_ble_eq_true rfl) (Nat.le_of_ble_eq_true rfl) (vx_ret (W.iret (v := 1) hx hb hr (fun t2 ht2 _ => ⟨⟨_, (), rfl, rfl, by rw [ht2]; exact hB2, by rw [ht2]; exact hPo1⟩, hS.F ht2⟩) hS.2.2 dL_holds_23 hlocks))
    · have hw := (if_neg c0).symm.trans hw
      by_cases c1 : E = "java/lang/UnsupportedOperationException"
      · have hw1 := (if_pos c1).symm.trans hw
        cases hw1
        subst c1
        refine vx_catch (name := "java/lang/UnsupportedOperationException") hown [⟨0, 17, 20, 19⟩] ⟨0, 17, 24, 21⟩ [⟨0, 17, 28, 34⟩] htab (List.forall_mem_cons.mpr ⟨Or.inr ⟨by decide, _, hts _ gv_635, hN 2 0 _ _ rfl rfl (by decide)⟩, (fun _ z => nomatch z)⟩) (by decide) (by decide) (hts _ gv_636) (hts _ gv_671) hcell hcv hcl ?_
        refine lv_astore (lv' := [(4, .ref q9), (0, .ref (G.2.1 0)), (1, .int a0), (2, .int a1), (3, .ref ho)]) hx hb dL_holds_24 hl (by decide) rfl (fun ls hl => ?_)
        refine lv_iconst (v := 2) hx hb dL_holds_26 (by decide) ?_
        exact W.widen (Nat.le_of_ble_eq_true rfl) (Nat.le_of_ble_eq_true rfl) (vx_ret (W.iret (v := 2) hx hb hr (fun t2 ht2 _ => ⟨⟨_, (), rfl, rfl, by rw [ht2]; exact hB2, by rw [ht2]; exact hPo1⟩, hS.F ht2⟩) hS.2.2 dL_holds_27 hlocks))
      · have hw := (if_neg c1).symm.trans hw
        by_cases c2 : E = "java/lang/IllegalArgumentException"
        · have hw1 := (if_pos c2).symm.trans hw
          cases hw1
          subst c2
          refine vx_catch (name := "java/lang/IllegalArgumentException") hown [⟨0, 17, 20, 19⟩, ⟨0, 17, 24, 21⟩] ⟨0, 17, 28, 34⟩ [] htab (List.forall_mem_cons.mpr ⟨Or.inr ⟨by decide, _, hts _ gv_635, hN 1 0 _ _ rfl rfl (by decide)⟩, (List.forall_mem_cons.mpr ⟨Or.inr ⟨by decide, _, hts _ gv_636, hN 1 2 _ _ rfl rfl (by decide)⟩, (fun _ z => nomatch z)⟩)⟩) (by decide) (by decide) (hts _ gv_712) (hts _ gv_724) hcell hcv hcl ?_
          refine lv_astore (lv' := [(4, .ref q9), (0, .ref (G.2.1 0)), (1, .int a0), (2, .int a1), (3, .ref ho)]) hx hb dL_holds_28 hl (by decide) rfl (fun ls hl => ?_)
          refine lv_iconst (v := 3) hx hb dL_holds_30 (by decide) ?_
          exact W.widen (Nat.le_of_ble_eq_true rfl) (Nat.le_of_ble_eq_true rfl) (vx_ret (W.iret (v := 3) hx hb hr (fun t2 ht2 _ => ⟨⟨_, (), rfl, rfl, by rw [ht2]; exact hB2, by rw [ht2]; exact hPo1⟩, hS.F ht2⟩) hS.2.2 dL_holds_31 hlocks))
        · have hw := (if_neg c2).symm.trans hw
          exact nomatch hw
  · obtain ⟨hp, -⟩ := hp
    subst hp
    subst ht
    have hPo1 := lo_kept hPo hap hk
    have hPJ := lo_PJ hB hPo1
    refine lv_if_eq (tgt := 15) hx hb dL_holds_8 (by decide) (fun c => ?_) (fun c => ?_)
    · refine lv_lconst (v := 0) hx hb dL_holds_15 (by decide) ?_
      refine va_last (D := G.1) (x := (0 : Int64)) hx hb hKo hPJ (lo_DJ hT.1 hap s.heap.size u _) hS 38 0 (n := 1) (i := 0) (f := f) rfl rfl (by unfold vp_in; decide) dL_holds_16 (fun H2 locs2 hP2 _ hS => ?_)
      have hP2 : va_P G.1 vwCl (gw_W G u ++ [(ho, .inl (cL, 1, .inr (.inl (vp_updL f (0 : Int32).toNatClampNeg (0 : Int64)))))]) H2 := hP2
      have hw1 : some ((0 : Int32), vp_updL f (0 : Int32).toNatClampNeg (0 : Int64)) = some (r, f2) := by rw [show (0 : Int64) = (if v = 0 then (0 : Int64) else (1 : Int64)) from (if_pos c).symm]; exact hw
      cases hw1
      refine lv_goto (tgt := 32) hx hb dL_holds_17 (by decide) ?_
      refine lv_iconst (v := 0) hx hb dL_holds_32 (by decide) ?_
      exact W.widen (Nat.le_of_ble_eq_true rfl) (Nat.le_of_ble_eq_true rfl) (vx_ret (W.iret (v := 0) hx hb hr (fun t2 ht2 _ => ⟨⟨_, (), rfl, rfl, by rw [ht2]; exact lo_PL hP2, by rw [ht2]; exact lo_PR hP2⟩, hS.F ht2⟩) hS.2.2 dL_holds_33 hlocks))
    · refine lv_lconst (v := 1) hx hb dL_holds_11 (by decide) ?_
      refine lv_goto (tgt := 16) hx hb dL_holds_12 (by decide) ?_
      refine va_last (D := G.1) (x := (1 : Int64)) hx hb hKo hPJ (lo_DJ hT.1 hap s.heap.size u _) hS 38 0 (n := 1) (i := 0) (f := f) rfl rfl (by unfold vp_in; decide) dL_holds_16 (fun H2 locs2 hP2 _ hS => ?_)
      have hP2 : va_P G.1 vwCl (gw_W G u ++ [(ho, .inl (cL, 1, .inr (.inl (vp_updL f (0 : Int32).toNatClampNeg (1 : Int64)))))]) H2 := hP2
      have hw1 : some ((0 : Int32), vp_updL f (0 : Int32).toNatClampNeg (1 : Int64)) = some (r, f2) := by rw [show (1 : Int64) = (if v = 0 then (0 : Int64) else (1 : Int64)) from (if_neg c).symm]; exact hw
      cases hw1
      refine lv_goto (tgt := 32) hx hb dL_holds_17 (by decide) ?_
      refine lv_iconst (v := 0) hx hb dL_holds_32 (by decide) ?_
      exact W.widen (Nat.le_of_ble_eq_true rfl) (Nat.le_of_ble_eq_true rfl) (vx_ret (W.iret (v := 0) hx hb hr (fun t2 ht2 _ => ⟨⟨_, (), rfl, rfl, by rw [ht2]; exact lo_PL hP2, by rw [ht2]; exact lo_PR hP2⟩, hS.F ht2⟩) hS.2.2 dL_holds_33 hlocks))
def w_against (f : Nat → Int64) (o : (Int32 ⊕ String)) : Option (Int32 × (Nat → Int64)) := match o with
  | .inl v => some (0, vp_updL f (0 : Int32).toNatClampNeg (v : Int32).toInt64)
  | .inr E => (if E = "java/lang/IndexOutOfBoundsException" then some (1, f) else (if E = "java/lang/UnsupportedOperationException" then some (2, f) else (if E = "java/util/NoSuchElementException" then some (3, f) else none)))
set_option maxHeartbeats 4000000 in
set_option maxRecDepth 100000 in
theorem gl_against (l : Launch) (hfl : l.stackTraces = false) (G : gw_G) (a0 : Int32) (cL : ClassId) (ho : Nat) (f f2 : Nat → Int64) (r : Int32) (σ : gw_S) (o : (Int32 ⊕ String) × gw_S) (h : f_X8_against a0 σ = some o) (hw : w_against f o.1 = some (r, f2)) : ∀ sz : Nat, vx_Met l yL_against (.codeWith yL_against cL_against 4 (some .int) [(0, 9, 12, 19), (0, 9, 15, 21), (0, 9, 18, 120)] :: gw_L) { frames := 303, cells := 3, slots := 6 * 3, locals := 5068 } (va_Pc [.ref (G.2.1 0), .int a0, .ref ho] (lo_Pre G .long cL ho (.inl (cL, 1, .inr (.inl f))) sz σ)) (lo_Q G ho r o.2 (.inl (cL, 1, .inr (.inl f2))) sz) (lo_XC G ho sz) 3 (6 * 3) (lo_A G ho sz) := by
  refine gl_en (own := RL) (lv := [(0, .ref (G.2.1 0)), (1, .int a0), (2, .ref ho)]) (by decide +kernel) rfl (Nat.le_of_ble_eq_true rfl) rfl ?_
  intro p e s m below meth c ls X hr hlocks htab hl hpre
  obtain ⟨hx, hb, hml, hown, hts, hT, hZ⟩ := id X
  obtain ⟨-, hP, hPo, -, -, hKo, hN, hap⟩ := hpre
  have hS : va_S (lo_A G ho s.heap.size) s.heap s.heap [] := va_S.rf
  refine lv_aload_n hx hb dL_against_0 rfl (lv_at hl 2 rfl) ?_
  refine lv_iconst (v := 0) hx hb dL_against_1 (by decide) ?_
  refine lv_aload_n hx hb dL_against_2 rfl (lv_at hl 0 rfl) ?_
  refine lv_iload_n hx hb dL_against_3 rfl (lv_at hl 1 rfl) ?_
  refine vx_calli (gl_xV (C := RX8) X hP hS (fun q z => Or.inl z) (gc_X8_against l hfl G a0 σ _ h) gk_X8_against gv_1072 ⟨gv_1073, gv_1074⟩ (va_recv hT.2.1 hP (ci := 10) (q0 := 0) rfl rfl) rfl rfl (Nat.le_of_ble_eq_true rfl) hl.1 ⟨rfl, rfl⟩ ⟨Nat.le_of_ble_eq_true rfl, Nat.le_of_ble_eq_true rfl⟩ ⟨Nat.le_of_ble_eq_true rfl, Nat.le_of_ble_eq_true rfl⟩ dL_against_4) hS (fun q _ z => Or.inl z) (fun q z => Or.inl z) (fun q _ z => Or.inl z) (fun E ce q9 u t H1 locs1 ht hvm hp hB hz hk hS hcell hcv hcl => ?_) (fun v u t H1 locs1 ht hvm hp hB hz hk hS => ?_)
  · obtain ⟨hB1, hB2⟩ := hB
    subst hB1
    subst ht
    have hPo1 := lo_kept hPo hap hk
    have hw : ((if E = "java/lang/IndexOutOfBoundsException" then some (1, f) else (if E = "java/lang/UnsupportedOperationException" then some (2, f) else (if E = "java/util/NoSuchElementException" then some (3, f) else none))) : Option (Int32 × (Nat → Int64))) = some (r, f2) := hw
    by_cases c0 : E = "java/lang/IndexOutOfBoundsException"
    · have hw1 := (if_pos c0).symm.trans hw
      cases hw1
      subst c0
      refine vx_catch (name := "java/lang/IndexOutOfBoundsException") hown [] ⟨0, 9, 12, 19⟩ [⟨0, 9, 15, 21⟩, ⟨0, 9, 18, 120⟩] htab (fun _ z => nomatch z) (by decide) (by decide) (hts _ gv_635) (hts _ gv_655) hcell hcv hcl ?_
      refine lv_astore_n (lv' := [(3, .ref q9), (0, .ref (G.2.1 0)), (1, .int a0), (2, .ref ho)]) hx hb dL_against_12 rfl hl (by decide) rfl (fun ls hl => ?_)
      refine lv_iconst (v := 1) hx hb dL_against_13 (by decide) ?_
      exact W.widen (Nat.le_of_ble_eq_true rfl) (Nat.le_of_ble_eq_true rfl) (vx_ret (W.iret (v := 1) hx hb hr (fun t2 ht2 _ => ⟨⟨_, (), rfl, rfl, by rw [ht2]; exact hB2, by rw [ht2]; exact hPo1⟩, hS.F ht2⟩) hS.2.2 dL_against_14 hlocks))
    · have hw := (if_neg c0).symm.trans hw
      by_cases c1 : E = "java/lang/UnsupportedOperationException"
      · have hw1 := (if_pos c1).symm.trans hw
        cases hw1
        subst c1
        refine vx_catch (name := "java/lang/UnsupportedOperationException") hown [⟨0, 9, 12, 19⟩] ⟨0, 9, 15, 21⟩ [⟨0, 9, 18, 120⟩] htab (List.forall_mem_cons.mpr ⟨Or.inr ⟨by decide, _, hts _ gv_635, hN 2 0 _ _ rfl rfl (by decide)⟩, (fun _ z => nomatch z)⟩) (by decide) (by decide) (hts _ gv_636) (hts _ gv_671) hcell hcv hcl ?_
        refine lv_astore_n (lv' := [(3, .ref q9), (0, .ref (G.2.1 0)), (1, .int a0), (2, .ref ho)]) hx hb dL_against_15 rfl hl (by decide) rfl (fun ls hl => ?_)
        refine lv_iconst (v := 2) hx hb dL_against_16 (by decide) ?_
        exact W.widen (Nat.le_of_ble_eq_true rfl) (Nat.le_of_ble_eq_true rfl) (vx_ret (W.iret (v := 2) hx hb hr (fun t2 ht2 _ => ⟨⟨_, (), rfl, rfl, by rw [ht2]; exact hB2, by rw [ht2]; exact hPo1⟩, hS.F ht2⟩) hS.2.2 dL_against_17 hlocks))
      · have hw := (if_neg c1).symm.trans hw
        by_cases c2 : E = "java/util/NoSuchElementException"
        · have hw1 := (if_pos c2).symm.trans hw
          cases hw1
          subst c2
          refine vx_catch (name := "java/util/NoSuchElementException") hown [⟨0, 9, 12, 19⟩, ⟨0, 9, 15, 21⟩] ⟨0, 9, 18, 120⟩ [] htab (List.forall_mem_cons.mpr ⟨Or.inr ⟨by decide, _, hts _ gv_635, hN 4 0 _ _ rfl rfl (by decide)⟩, (List.forall_mem_cons.mpr ⟨Or.inr ⟨by decide, _, hts _ gv_636, hN 4 2 _ _ rfl rfl (by decide)⟩, (fun _ z => nomatch z)⟩)⟩) (by decide) (by decide) (hts _ gv_1071) (hts _ gv_1078) hcell hcv hcl ?_
          refine lv_astore_n (lv' := [(3, .ref q9), (0, .ref (G.2.1 0)), (1, .int a0), (2, .ref ho)]) hx hb dL_against_18 rfl hl (by decide) rfl (fun ls hl => ?_)
          refine lv_iconst (v := 3) hx hb dL_against_19 (by decide) ?_
          exact W.widen (Nat.le_of_ble_eq_true rfl) (Nat.le_of_ble_eq_true rfl) (vx_ret (W.iret (v := 3) hx hb hr (fun t2 ht2 _ => ⟨⟨_, (), rfl, rfl, by rw [ht2]; exact hB2, by rw [ht2]; exact hPo1⟩, hS.F ht2⟩) hS.2.2 dL_against_20 hlocks))
        · have hw := (if_neg c2).symm.trans hw
          exact nomatch hw
  · subst hp
    subst ht
    have hPo1 := lo_kept hPo hap hk
    have hPJ := lo_PJ hB hPo1
    refine lv_i2l hx hb dL_against_7 rfl ?_
    refine va_last (D := G.1) (x := v.toInt64) hx hb hKo hPJ (lo_DJ hT.1 hap s.heap.size u _) hS 38 0 (n := 1) (i := 0) (f := f) rfl rfl (by unfold vp_in; decide) dL_against_8 (fun H2 locs2 hP2 _ hS => ?_)
    have hP2 : va_P G.1 vwCl (gw_W G u ++ [(ho, .inl (cL, 1, .inr (.inl (vp_updL f (0 : Int32).toNatClampNeg v.toInt64))))]) H2 := hP2
    have hw1 : some ((0 : Int32), vp_updL f (0 : Int32).toNatClampNeg v.toInt64) = some (r, f2) := hw
    cases hw1
    refine lv_goto (tgt := 21) hx hb dL_against_9 (by decide) ?_
    refine lv_iconst (v := 0) hx hb dL_against_21 (by decide) ?_
    exact W.widen (Nat.le_of_ble_eq_true rfl) (Nat.le_of_ble_eq_true rfl) (vx_ret (W.iret (v := 0) hx hb hr (fun t2 ht2 _ => ⟨⟨_, (), rfl, rfl, by rw [ht2]; exact lo_PL hP2, by rw [ht2]; exact lo_PR hP2⟩, hS.F ht2⟩) hS.2.2 dL_against_22 hlocks))
def w_swap (f : Nat → Int64) (o : (Int32 ⊕ String)) : Option (Int32 × (Nat → Int64)) := match o with
  | .inl v => some (0, vp_updL f (0 : Int32).toNatClampNeg (if (v : Int32) = 0 then (0 : Int64) else (1 : Int64)))
  | .inr E => (if E = "java/lang/IndexOutOfBoundsException" then some (1, f) else none)
set_option maxHeartbeats 4000000 in
set_option maxRecDepth 100000 in
theorem gl_swap (l : Launch) (hfl : l.stackTraces = false) (G : gw_G) (a0 : Int32) (a1 : Int32) (cL : ClassId) (ho : Nat) (f f2 : Nat → Int64) (r : Int32) (σ : gw_S) (o : (Int32 ⊕ String) × gw_S) (h : f_X8_swap a0 a1 σ = some o) (hw : w_swap f o.1 = some (r, f2)) : ∀ sz : Nat, vx_Met l yL_swap (.codeWith yL_swap cL_swap 5 (some .int) [(0, 17, 20, 19)] :: gw_L) { frames := 9, cells := 2, slots := 6 * 2, locals := 147 } (va_Pc [.ref (G.2.1 0), .int a0, .int a1, .ref ho] (lo_Pre G .long cL ho (.inl (cL, 1, .inr (.inl f))) sz σ)) (lo_Q G ho r o.2 (.inl (cL, 1, .inr (.inl f2))) sz) (lo_XC G ho sz) 2 (6 * 2) (lo_A G ho sz) := by
  refine gl_en (own := RL) (lv := [(0, .ref (G.2.1 0)), (1, .int a0), (2, .int a1), (3, .ref ho)]) (by decide +kernel) rfl (Nat.le_of_ble_eq_true rfl) rfl ?_
  intro p e s m below meth c ls X hr hlocks htab hl hpre
  obtain ⟨hx, hb, hml, hown, hts, hT, hZ⟩ := id X
  obtain ⟨-, hP, hPo, -, -, hKo, hN, hap⟩ := hpre
  have hS : va_S (lo_A G ho s.heap.size) s.heap s.heap [] := va_S.rf
  refine lv_aload_n hx hb dL_swap_0 rfl (lv_at hl 3 rfl) ?_
  refine lv_iconst (v := 0) hx hb dL_swap_1 (by decide) ?_
  refine lv_aload_n hx hb dL_swap_2 rfl (lv_at hl 0 rfl) ?_
  refine lv_iload_n hx hb dL_swap_3 rfl (lv_at hl 1 rfl) ?_
  refine lv_iload_n hx hb dL_swap_4 rfl (lv_at hl 2 rfl) ?_
  refine vx_calli (gl_xV (C := RX8) X hP hS (fun q z => Or.inl z) (gc_X8_swap l hfl G a0 a1 σ _ h) gk_X8_swap gv_1095 ⟨gv_1096, gv_1097⟩ (va_recv hT.2.1 hP (ci := 10) (q0 := 0) rfl rfl) rfl rfl (Nat.le_of_ble_eq_true rfl) hl.1 ⟨rfl, rfl⟩ ⟨Nat.le_of_ble_eq_true rfl, Nat.le_of_ble_eq_true rfl⟩ ⟨Nat.le_of_ble_eq_true rfl, Nat.le_of_ble_eq_true rfl⟩ dL_swap_5) hS (fun q _ z => Or.inl z) (fun q z => Or.inl z) (fun q _ z => Or.inl z) (fun E ce q9 u t H1 locs1 ht hvm hp hB hz hk hS hcell hcv hcl => ?_) (fun v u t H1 locs1 ht hvm hp hB hz hk hS => ?_)
  · obtain ⟨hB1, hB2⟩ := hB
    subst hB1
    subst ht
    have hPo1 := lo_kept hPo hap hk
    have hw : ((if E = "java/lang/IndexOutOfBoundsException" then some (1, f) else none) : Option (Int32 × (Nat → Int64))) = some (r, f2) := hw
    by_cases c0 : E = "java/lang/IndexOutOfBoundsException"
    · have hw1 := (if_pos c0).symm.trans hw
      cases hw1
      subst c0
      refine vx_catch (name := "java/lang/IndexOutOfBoundsException") hown [] ⟨0, 17, 20, 19⟩ [] htab (fun _ z => nomatch z) (by decide) (by decide) (hts _ gv_635) (hts _ gv_655) hcell hcv hcl ?_
      refine lv_astore (lv' := [(4, .ref q9), (0, .ref (G.2.1 0)), (1, .int a0), (2, .int a1), (3, .ref ho)]) hx hb dL_swap_20 hl (by decide) rfl (fun ls hl => ?_)
      refine lv_iconst (v := 1) hx hb dL_swap_22 (by decide) ?_
      exact W.widen (Nat.le_of_ble_eq_true rfl) (Nat.le_of_ble_eq_true rfl) (vx_ret (W.iret (v := 1) hx hb hr (fun t2 ht2 _ => ⟨⟨_, (), rfl, rfl, by rw [ht2]; exact hB2, by rw [ht2]; exact hPo1⟩, hS.F ht2⟩) hS.2.2 dL_swap_23 hlocks))
    · have hw := (if_neg c0).symm.trans hw
      exact nomatch hw
  · obtain ⟨hp, -⟩ := hp
    subst hp
    subst ht
    have hPo1 := lo_kept hPo hap hk
    have hPJ := lo_PJ hB hPo1
    refine lv_if_eq (tgt := 15) hx hb dL_swap_8 (by decide) (fun c => ?_) (fun c => ?_)
    · refine lv_lconst (v := 0) hx hb dL_swap_15 (by decide) ?_
      refine va_last (D := G.1) (x := (0 : Int64)) hx hb hKo hPJ (lo_DJ hT.1 hap s.heap.size u _) hS 38 0 (n := 1) (i := 0) (f := f) rfl rfl (by unfold vp_in; decide) dL_swap_16 (fun H2 locs2 hP2 _ hS => ?_)
      have hP2 : va_P G.1 vwCl (gw_W G u ++ [(ho, .inl (cL, 1, .inr (.inl (vp_updL f (0 : Int32).toNatClampNeg (0 : Int64)))))]) H2 := hP2
      have hw1 : some ((0 : Int32), vp_updL f (0 : Int32).toNatClampNeg (0 : Int64)) = some (r, f2) := by rw [show (0 : Int64) = (if v = 0 then (0 : Int64) else (1 : Int64)) from (if_pos c).symm]; exact hw
      cases hw1
      refine lv_goto (tgt := 24) hx hb dL_swap_17 (by decide) ?_
      refine lv_iconst (v := 0) hx hb dL_swap_24 (by decide) ?_
      exact W.widen (Nat.le_of_ble_eq_true rfl) (Nat.le_of_ble_eq_true rfl) (vx_ret (W.iret (v := 0) hx hb hr (fun t2 ht2 _ => ⟨⟨_, (), rfl, rfl, by rw [ht2]; exact lo_PL hP2, by rw [ht2]; exact lo_PR hP2⟩, hS.F ht2⟩) hS.2.2 dL_swap_25 hlocks))
    · refine lv_lconst (v := 1) hx hb dL_swap_11 (by decide) ?_
      refine lv_goto (tgt := 16) hx hb dL_swap_12 (by decide) ?_
      refine va_last (D := G.1) (x := (1 : Int64)) hx hb hKo hPJ (lo_DJ hT.1 hap s.heap.size u _) hS 38 0 (n := 1) (i := 0) (f := f) rfl rfl (by unfold vp_in; decide) dL_swap_16 (fun H2 locs2 hP2 _ hS => ?_)
      have hP2 : va_P G.1 vwCl (gw_W G u ++ [(ho, .inl (cL, 1, .inr (.inl (vp_updL f (0 : Int32).toNatClampNeg (1 : Int64)))))]) H2 := hP2
      have hw1 : some ((0 : Int32), vp_updL f (0 : Int32).toNatClampNeg (1 : Int64)) = some (r, f2) := by rw [show (1 : Int64) = (if v = 0 then (0 : Int64) else (1 : Int64)) from (if_neg c).symm]; exact hw
      cases hw1
      refine lv_goto (tgt := 24) hx hb dL_swap_17 (by decide) ?_
      refine lv_iconst (v := 0) hx hb dL_swap_24 (by decide) ?_
      exact W.widen (Nat.le_of_ble_eq_true rfl) (Nat.le_of_ble_eq_true rfl) (vx_ret (W.iret (v := 0) hx hb hr (fun t2 ht2 _ => ⟨⟨_, (), rfl, rfl, by rw [ht2]; exact lo_PL hP2, by rw [ht2]; exact lo_PR hP2⟩, hS.F ht2⟩) hS.2.2 dL_swap_25 hlocks))
def w_goes (f : Nat → Int64) (o : (Int32 ⊕ String)) : Option (Int32 × (Nat → Int64)) := match o with
  | .inl v => some (0, vp_updL f (0 : Int32).toNatClampNeg (v : Int32).toInt64)
  | .inr E => (if E = "java/lang/IndexOutOfBoundsException" then some (1, f) else none)
set_option maxHeartbeats 4000000 in
set_option maxRecDepth 100000 in
theorem gl_goes (l : Launch) (hfl : l.stackTraces = false) (G : gw_G) (a0 : Int32) (cL : ClassId) (ho : Nat) (f f2 : Nat → Int64) (r : Int32) (σ : gw_S) (o : (Int32 ⊕ String) × gw_S) (h : f_X8_goes a0 σ = some o) (hw : w_goes f o.1 = some (r, f2)) : ∀ sz : Nat, vx_Met l yL_goes (.codeWith yL_goes cL_goes 4 (some .int) [(0, 9, 12, 19)] :: gw_L) { frames := 8, cells := 1, slots := 6 * 1, locals := 124 } (va_Pc [.ref (G.2.1 0), .int a0, .ref ho] (lo_Pre G .long cL ho (.inl (cL, 1, .inr (.inl f))) sz σ)) (lo_Q G ho r o.2 (.inl (cL, 1, .inr (.inl f2))) sz) (lo_XC G ho sz) 1 (6 * 1) (lo_A G ho sz) := by
  refine gl_en (own := RL) (lv := [(0, .ref (G.2.1 0)), (1, .int a0), (2, .ref ho)]) (by decide +kernel) rfl (Nat.le_of_ble_eq_true rfl) rfl ?_
  intro p e s m below meth c ls X hr hlocks htab hl hpre
  obtain ⟨hx, hb, hml, hown, hts, hT, hZ⟩ := id X
  obtain ⟨-, hP, hPo, -, -, hKo, hN, hap⟩ := hpre
  have hS : va_S (lo_A G ho s.heap.size) s.heap s.heap [] := va_S.rf
  refine lv_aload_n hx hb dL_goes_0 rfl (lv_at hl 2 rfl) ?_
  refine lv_iconst (v := 0) hx hb dL_goes_1 (by decide) ?_
  refine lv_aload_n hx hb dL_goes_2 rfl (lv_at hl 0 rfl) ?_
  refine lv_iload_n hx hb dL_goes_3 rfl (lv_at hl 1 rfl) ?_
  refine vx_calli (gl_xV (C := RX8) X hP hS (fun q z => Or.inl z) (gc_X8_goes l hfl G a0 σ _ h) gk_X8_goes gv_1111 ⟨gv_1112, gv_1113⟩ (va_recv hT.2.1 hP (ci := 10) (q0 := 0) rfl rfl) rfl rfl (Nat.le_of_ble_eq_true rfl) hl.1 ⟨rfl, rfl⟩ ⟨Nat.le_of_ble_eq_true rfl, Nat.le_of_ble_eq_true rfl⟩ ⟨Nat.le_of_ble_eq_true rfl, Nat.le_of_ble_eq_true rfl⟩ dL_goes_4) hS (fun q _ z => Or.inl z) (fun q z => Or.inl z) (fun q _ z => Or.inl z) (fun E ce q9 u t H1 locs1 ht hvm hp hB hz hk hS hcell hcv hcl => ?_) (fun v u t H1 locs1 ht hvm hp hB hz hk hS => ?_)
  · obtain ⟨hB1, hB2⟩ := hB
    subst hB1
    subst ht
    have hPo1 := lo_kept hPo hap hk
    have hw : ((if E = "java/lang/IndexOutOfBoundsException" then some (1, f) else none) : Option (Int32 × (Nat → Int64))) = some (r, f2) := hw
    by_cases c0 : E = "java/lang/IndexOutOfBoundsException"
    · have hw1 := (if_pos c0).symm.trans hw
      cases hw1
      subst c0
      refine vx_catch (name := "java/lang/IndexOutOfBoundsException") hown [] ⟨0, 9, 12, 19⟩ [] htab (fun _ z => nomatch z) (by decide) (by decide) (hts _ gv_635) (hts _ gv_655) hcell hcv hcl ?_
      refine lv_astore_n (lv' := [(3, .ref q9), (0, .ref (G.2.1 0)), (1, .int a0), (2, .ref ho)]) hx hb dL_goes_12 rfl hl (by decide) rfl (fun ls hl => ?_)
      refine lv_iconst (v := 1) hx hb dL_goes_13 (by decide) ?_
      exact W.widen (Nat.le_of_ble_eq_true rfl) (Nat.le_of_ble_eq_true rfl) (vx_ret (W.iret (v := 1) hx hb hr (fun t2 ht2 _ => ⟨⟨_, (), rfl, rfl, by rw [ht2]; exact hB2, by rw [ht2]; exact hPo1⟩, hS.F ht2⟩) hS.2.2 dL_goes_14 hlocks))
    · have hw := (if_neg c0).symm.trans hw
      exact nomatch hw
  · subst hp
    subst ht
    have hPo1 := lo_kept hPo hap hk
    have hPJ := lo_PJ hB hPo1
    refine lv_i2l hx hb dL_goes_7 rfl ?_
    refine va_last (D := G.1) (x := v.toInt64) hx hb hKo hPJ (lo_DJ hT.1 hap s.heap.size u _) hS 38 0 (n := 1) (i := 0) (f := f) rfl rfl (by unfold vp_in; decide) dL_goes_8 (fun H2 locs2 hP2 _ hS => ?_)
    have hP2 : va_P G.1 vwCl (gw_W G u ++ [(ho, .inl (cL, 1, .inr (.inl (vp_updL f (0 : Int32).toNatClampNeg v.toInt64))))]) H2 := hP2
    have hw1 : some ((0 : Int32), vp_updL f (0 : Int32).toNatClampNeg v.toInt64) = some (r, f2) := hw
    cases hw1
    refine lv_goto (tgt := 15) hx hb dL_goes_9 (by decide) ?_
    refine lv_iconst (v := 0) hx hb dL_goes_15 (by decide) ?_
    exact W.widen (Nat.le_of_ble_eq_true rfl) (Nat.le_of_ble_eq_true rfl) (vx_ret (W.iret (v := 0) hx hb hr (fun t2 ht2 _ => ⟨⟨_, (), rfl, rfl, by rw [ht2]; exact lo_PL hP2, by rw [ht2]; exact lo_PR hP2⟩, hS.F ht2⟩) hS.2.2 dL_goes_16 hlocks))
def w_isFixed (f : Nat → Int64) (o : (Int32 ⊕ String)) : Option (Int32 × (Nat → Int64)) := match o with
  | .inl v => some (0, vp_updL f (0 : Int32).toNatClampNeg (if (v : Int32) = 0 then (0 : Int64) else (1 : Int64)))
  | .inr E => (if E = "java/lang/IndexOutOfBoundsException" then some (1, f) else (if E = "java/lang/UnsupportedOperationException" then some (2, f) else none))
set_option maxHeartbeats 4000000 in
set_option maxRecDepth 100000 in
theorem gl_isFixed (l : Launch) (hfl : l.stackTraces = false) (G : gw_G) (a0 : Int32) (cL : ClassId) (ho : Nat) (f f2 : Nat → Int64) (r : Int32) (σ : gw_S) (o : (Int32 ⊕ String) × gw_S) (h : f_X8_isFixed a0 σ = some o) (hw : w_isFixed f o.1 = some (r, f2)) : ∀ sz : Nat, vx_Met l yL_isFixed (.codeWith yL_isFixed cL_isFixed 4 (some .int) [(0, 16, 19, 19), (0, 16, 22, 21)] :: gw_L) { frames := 8, cells := 2, slots := 6 * 2, locals := 127 } (va_Pc [.ref (G.2.1 0), .int a0, .ref ho] (lo_Pre G .long cL ho (.inl (cL, 1, .inr (.inl f))) sz σ)) (lo_Q G ho r o.2 (.inl (cL, 1, .inr (.inl f2))) sz) (lo_XC G ho sz) 2 (6 * 2) (lo_A G ho sz) := by
  refine gl_en (own := RL) (lv := [(0, .ref (G.2.1 0)), (1, .int a0), (2, .ref ho)]) (by decide +kernel) rfl (Nat.le_of_ble_eq_true rfl) rfl ?_
  intro p e s m below meth c ls X hr hlocks htab hl hpre
  obtain ⟨hx, hb, hml, hown, hts, hT, hZ⟩ := id X
  obtain ⟨-, hP, hPo, -, -, hKo, hN, hap⟩ := hpre
  have hS : va_S (lo_A G ho s.heap.size) s.heap s.heap [] := va_S.rf
  refine lv_aload_n hx hb dL_isFixed_0 rfl (lv_at hl 2 rfl) ?_
  refine lv_iconst (v := 0) hx hb dL_isFixed_1 (by decide) ?_
  refine lv_aload_n hx hb dL_isFixed_2 rfl (lv_at hl 0 rfl) ?_
  refine lv_iload_n hx hb dL_isFixed_3 rfl (lv_at hl 1 rfl) ?_
  refine vx_calli (gl_xV (C := RX8) X hP hS (fun q z => Or.inl z) (gc_X8_isFixed l hfl G a0 σ _ h) gk_X8_isFixed gv_1119 ⟨gv_1120, gv_1121⟩ (va_recv hT.2.1 hP (ci := 10) (q0 := 0) rfl rfl) rfl rfl (Nat.le_of_ble_eq_true rfl) hl.1 ⟨rfl, rfl⟩ ⟨Nat.le_of_ble_eq_true rfl, Nat.le_of_ble_eq_true rfl⟩ ⟨Nat.le_of_ble_eq_true rfl, Nat.le_of_ble_eq_true rfl⟩ dL_isFixed_4) hS (fun q _ z => Or.inl z) (fun q z => Or.inl z) (fun q _ z => Or.inl z) (fun E ce q9 u t H1 locs1 ht hvm hp hB hz hk hS hcell hcv hcl => ?_) (fun v u t H1 locs1 ht hvm hp hB hz hk hS => ?_)
  · obtain ⟨hB1, hB2⟩ := hB
    subst hB1
    subst ht
    have hPo1 := lo_kept hPo hap hk
    have hw : ((if E = "java/lang/IndexOutOfBoundsException" then some (1, f) else (if E = "java/lang/UnsupportedOperationException" then some (2, f) else none)) : Option (Int32 × (Nat → Int64))) = some (r, f2) := hw
    by_cases c0 : E = "java/lang/IndexOutOfBoundsException"
    · have hw1 := (if_pos c0).symm.trans hw
      cases hw1
      subst c0
      refine vx_catch (name := "java/lang/IndexOutOfBoundsException") hown [] ⟨0, 16, 19, 19⟩ [⟨0, 16, 22, 21⟩] htab (fun _ z => nomatch z) (by decide) (by decide) (hts _ gv_635) (hts _ gv_655) hcell hcv hcl ?_
      refine lv_astore_n (lv' := [(3, .ref q9), (0, .ref (G.2.1 0)), (1, .int a0), (2, .ref ho)]) hx hb dL_isFixed_19 rfl hl (by decide) rfl (fun ls hl => ?_)
      refine lv_iconst (v := 1) hx hb dL_isFixed_20 (by decide) ?_
      exact W.widen (Nat.le_of_ble_eq_true rfl) (Nat.le_of_ble_eq_true rfl) (vx_ret (W.iret (v := 1) hx hb hr (fun t2 ht2 _ => ⟨⟨_, (), rfl, rfl, by rw [ht2]; exact hB2, by rw [ht2]; exact hPo1⟩, hS.F ht2⟩) hS.2.2 dL_isFixed_21 hlocks))
    · have hw := (if_neg c0).symm.trans hw
      by_cases c1 : E = "java/lang/UnsupportedOperationException"
      · have hw1 := (if_pos c1).symm.trans hw
        cases hw1
        subst c1
        refine vx_catch (name := "java/lang/UnsupportedOperationException") hown [⟨0, 16, 19, 19⟩] ⟨0, 16, 22, 21⟩ [] htab (List.forall_mem_cons.mpr ⟨Or.inr ⟨by decide, _, hts _ gv_635, hN 2 0 _ _ rfl rfl (by decide)⟩, (fun _ z => nomatch z)⟩) (by decide) (by decide) (hts _ gv_636) (hts _ gv_671) hcell hcv hcl ?_
        refine lv_astore_n (lv' := [(3, .ref q9), (0, .ref (G.2.1 0)), (1, .int a0), (2, .ref ho)]) hx hb dL_isFixed_22 rfl hl (by decide) rfl (fun ls hl => ?_)
        refine lv_iconst (v := 2) hx hb dL_isFixed_23 (by decide) ?_
        exact W.widen (Nat.le_of_ble_eq_true rfl) (Nat.le_of_ble_eq_true rfl) (vx_ret (W.iret (v := 2) hx hb hr (fun t2 ht2 _ => ⟨⟨_, (), rfl, rfl, by rw [ht2]; exact hB2, by rw [ht2]; exact hPo1⟩, hS.F ht2⟩) hS.2.2 dL_isFixed_24 hlocks))
      · have hw := (if_neg c1).symm.trans hw
        exact nomatch hw
  · obtain ⟨hp, -⟩ := hp
    subst hp
    subst ht
    have hPo1 := lo_kept hPo hap hk
    have hPJ := lo_PJ hB hPo1
    refine lv_if_eq (tgt := 14) hx hb dL_isFixed_7 (by decide) (fun c => ?_) (fun c => ?_)
    · refine lv_lconst (v := 0) hx hb dL_isFixed_14 (by decide) ?_
      refine va_last (D := G.1) (x := (0 : Int64)) hx hb hKo hPJ (lo_DJ hT.1 hap s.heap.size u _) hS 38 0 (n := 1) (i := 0) (f := f) rfl rfl (by unfold vp_in; decide) dL_isFixed_15 (fun H2 locs2 hP2 _ hS => ?_)
      have hP2 : va_P G.1 vwCl (gw_W G u ++ [(ho, .inl (cL, 1, .inr (.inl (vp_updL f (0 : Int32).toNatClampNeg (0 : Int64)))))]) H2 := hP2
      have hw1 : some ((0 : Int32), vp_updL f (0 : Int32).toNatClampNeg (0 : Int64)) = some (r, f2) := by rw [show (0 : Int64) = (if v = 0 then (0 : Int64) else (1 : Int64)) from (if_pos c).symm]; exact hw
      cases hw1
      refine lv_goto (tgt := 25) hx hb dL_isFixed_16 (by decide) ?_
      refine lv_iconst (v := 0) hx hb dL_isFixed_25 (by decide) ?_
      exact W.widen (Nat.le_of_ble_eq_true rfl) (Nat.le_of_ble_eq_true rfl) (vx_ret (W.iret (v := 0) hx hb hr (fun t2 ht2 _ => ⟨⟨_, (), rfl, rfl, by rw [ht2]; exact lo_PL hP2, by rw [ht2]; exact lo_PR hP2⟩, hS.F ht2⟩) hS.2.2 dL_isFixed_26 hlocks))
    · refine lv_lconst (v := 1) hx hb dL_isFixed_10 (by decide) ?_
      refine lv_goto (tgt := 15) hx hb dL_isFixed_11 (by decide) ?_
      refine va_last (D := G.1) (x := (1 : Int64)) hx hb hKo hPJ (lo_DJ hT.1 hap s.heap.size u _) hS 38 0 (n := 1) (i := 0) (f := f) rfl rfl (by unfold vp_in; decide) dL_isFixed_15 (fun H2 locs2 hP2 _ hS => ?_)
      have hP2 : va_P G.1 vwCl (gw_W G u ++ [(ho, .inl (cL, 1, .inr (.inl (vp_updL f (0 : Int32).toNatClampNeg (1 : Int64)))))]) H2 := hP2
      have hw1 : some ((0 : Int32), vp_updL f (0 : Int32).toNatClampNeg (1 : Int64)) = some (r, f2) := by rw [show (1 : Int64) = (if v = 0 then (0 : Int64) else (1 : Int64)) from (if_neg c).symm]; exact hw
      cases hw1
      refine lv_goto (tgt := 25) hx hb dL_isFixed_16 (by decide) ?_
      refine lv_iconst (v := 0) hx hb dL_isFixed_25 (by decide) ?_
      exact W.widen (Nat.le_of_ble_eq_true rfl) (Nat.le_of_ble_eq_true rfl) (vx_ret (W.iret (v := 0) hx hb hr (fun t2 ht2 _ => ⟨⟨_, (), rfl, rfl, by rw [ht2]; exact lo_PL hP2, by rw [ht2]; exact lo_PR hP2⟩, hS.F ht2⟩) hS.2.2 dL_isFixed_26 hlocks))
def w_lastShare (f : Nat → UInt64) (o : (UInt32 ⊕ String)) : Option (Int32 × (Nat → UInt64)) := match o with
  | .inl _ => none
  | .inr E => (if E = "java/util/NoSuchElementException" then some (1, f) else none)
set_option maxHeartbeats 4000000 in
set_option maxRecDepth 100000 in
theorem gl_lastShare (l : Launch) (hfl : l.stackTraces = false) (G : gw_G) (cL : ClassId) (ho : Nat) (f f2 : Nat → UInt64) (r : Int32) (σ : gw_S) (o : (UInt32 ⊕ String) × gw_S) (h : f_X8_lastShare σ = some o) (hw : w_lastShare f o.1 = some (r, f2)) : ∀ sz : Nat, vx_Met l yL_lastShare (.codeWith yL_lastShare cL_lastShare 3 (some .int) [(0, 8, 11, 120)] :: gw_L) { frames := 7, cells := 1, slots := 6 * 1, locals := 102 } (va_Pc [.ref (G.2.1 0), .ref ho] (lo_Pre G .double cL ho (.inl (cL, 1, .inr (.inr (.inr (.inl f))))) sz σ)) (lo_Q G ho r o.2 (.inl (cL, 1, .inr (.inr (.inr (.inl f2))))) sz) (lo_XC G ho sz) 1 (6 * 1) (lo_A G ho sz) := by
  refine gl_en (own := RL) (lv := [(0, .ref (G.2.1 0)), (1, .ref ho)]) (by decide +kernel) rfl (Nat.le_of_ble_eq_true rfl) rfl ?_
  intro p e s m below meth c ls X hr hlocks htab hl hpre
  obtain ⟨hx, hb, hml, hown, hts, hT, hZ⟩ := id X
  obtain ⟨-, hP, hPo, -, -, hKo, hN, hap⟩ := hpre
  have hS : va_S (lo_A G ho s.heap.size) s.heap s.heap [] := va_S.rf
  refine lv_aload_n hx hb dL_lastShare_0 rfl (lv_at hl 1 rfl) ?_
  refine lv_iconst (v := 0) hx hb dL_lastShare_1 (by decide) ?_
  refine lv_aload_n hx hb dL_lastShare_2 rfl (lv_at hl 0 rfl) ?_
  refine vx_callf (gl_xV (C := RX8) X hP hS (fun q z => Or.inl z) (gc_X8_lastShare l hfl G σ _ h) gk_X8_lastShare gv_1127 ⟨gv_1128, gv_1129⟩ (va_recv hT.2.1 hP (ci := 10) (q0 := 0) rfl rfl) rfl rfl (Nat.le_of_ble_eq_true rfl) hl.1 ⟨rfl, rfl⟩ ⟨Nat.le_of_ble_eq_true rfl, Nat.le_of_ble_eq_true rfl⟩ ⟨Nat.le_of_ble_eq_true rfl, Nat.le_of_ble_eq_true rfl⟩ dL_lastShare_3) hS (fun q _ z => Or.inl z) (fun q z => Or.inl z) (fun q _ z => Or.inl z) (fun E ce q9 u t H1 locs1 ht hvm hp hB hz hk hS hcell hcv hcl => ?_) (fun v u t H1 locs1 ht hvm hp hB hz hk hS => ?_)
  · obtain ⟨hB1, hB2⟩ := hB
    subst hB1
    subst ht
    have hPo1 := lo_kept hPo hap hk
    have hw : ((if E = "java/util/NoSuchElementException" then some (1, f) else none) : Option (Int32 × (Nat → UInt64))) = some (r, f2) := hw
    by_cases c0 : E = "java/util/NoSuchElementException"
    · have hw1 := (if_pos c0).symm.trans hw
      cases hw1
      subst c0
      refine vx_catch (name := "java/util/NoSuchElementException") hown [] ⟨0, 8, 11, 120⟩ [] htab (fun _ z => nomatch z) (by decide) (by decide) (hts _ gv_1071) (hts _ gv_1078) hcell hcv hcl ?_
      refine lv_astore_n (lv' := [(2, .ref q9), (0, .ref (G.2.1 0)), (1, .ref ho)]) hx hb dL_lastShare_11 rfl hl (by decide) rfl (fun ls hl => ?_)
      refine lv_iconst (v := 1) hx hb dL_lastShare_12 (by decide) ?_
      exact W.widen (Nat.le_of_ble_eq_true rfl) (Nat.le_of_ble_eq_true rfl) (vx_ret (W.iret (v := 1) hx hb hr (fun t2 ht2 _ => ⟨⟨_, (), rfl, rfl, by rw [ht2]; exact hB2, by rw [ht2]; exact hPo1⟩, hS.F ht2⟩) hS.2.2 dL_lastShare_13 hlocks))
    · have hw := (if_neg c0).symm.trans hw
      exact nomatch hw
  · subst hp
    subst ht
    exact absurd hw (fun z => nomatch z)
def w_meanRank (f : Nat → UInt64) (o : (UInt64 ⊕ String)) : Option (Int32 × (Nat → UInt64)) := match o with
  | .inl _ => none
  | .inr E => (if E = "java/util/NoSuchElementException" then some (1, f) else none)
set_option maxHeartbeats 4000000 in
set_option maxRecDepth 100000 in
theorem gl_meanRank (l : Launch) (hfl : l.stackTraces = false) (G : gw_G) (cL : ClassId) (ho : Nat) (f f2 : Nat → UInt64) (r : Int32) (σ : gw_S) (o : (UInt64 ⊕ String) × gw_S) (h : f_X8_meanRank σ = some o) (hw : w_meanRank f o.1 = some (r, f2)) : ∀ sz : Nat, vx_Met l yL_meanRank (.codeWith yL_meanRank cL_meanRank 3 (some .int) [(0, 7, 10, 120)] :: gw_L) { frames := 7, cells := 1, slots := 6 * 1, locals := 104 } (va_Pc [.ref (G.2.1 0), .ref ho] (lo_Pre G .double cL ho (.inl (cL, 1, .inr (.inr (.inr (.inl f))))) sz σ)) (lo_Q G ho r o.2 (.inl (cL, 1, .inr (.inr (.inr (.inl f2))))) sz) (lo_XC G ho sz) 1 (6 * 1) (lo_A G ho sz) := by
  refine gl_en (own := RL) (lv := [(0, .ref (G.2.1 0)), (1, .ref ho)]) (by decide +kernel) rfl (Nat.le_of_ble_eq_true rfl) rfl ?_
  intro p e s m below meth c ls X hr hlocks htab hl hpre
  obtain ⟨hx, hb, hml, hown, hts, hT, hZ⟩ := id X
  obtain ⟨-, hP, hPo, -, -, hKo, hN, hap⟩ := hpre
  have hS : va_S (lo_A G ho s.heap.size) s.heap s.heap [] := va_S.rf
  refine lv_aload_n hx hb dL_meanRank_0 rfl (lv_at hl 1 rfl) ?_
  refine lv_iconst (v := 0) hx hb dL_meanRank_1 (by decide) ?_
  refine lv_aload_n hx hb dL_meanRank_2 rfl (lv_at hl 0 rfl) ?_
  refine vx_calld (gl_xV (C := RX8) X hP hS (fun q z => Or.inl z) (gc_X8_meanRank l hfl G σ _ h) gk_X8_meanRank gv_1135 ⟨gv_1136, gv_1137⟩ (va_recv hT.2.1 hP (ci := 10) (q0 := 0) rfl rfl) rfl rfl (Nat.le_of_ble_eq_true rfl) hl.1 ⟨rfl, rfl⟩ ⟨Nat.le_of_ble_eq_true rfl, Nat.le_of_ble_eq_true rfl⟩ ⟨Nat.le_of_ble_eq_true rfl, Nat.le_of_ble_eq_true rfl⟩ dL_meanRank_3) hS (fun q _ z => Or.inl z) (fun q z => Or.inl z) (fun q _ z => Or.inl z) (fun E ce q9 u t H1 locs1 ht hvm hp hB hz hk hS hcell hcv hcl => ?_) (fun v u t H1 locs1 ht hvm hp hB hz hk hS => ?_)
  · obtain ⟨hB1, hB2⟩ := hB
    subst hB1
    subst ht
    have hPo1 := lo_kept hPo hap hk
    have hw : ((if E = "java/util/NoSuchElementException" then some (1, f) else none) : Option (Int32 × (Nat → UInt64))) = some (r, f2) := hw
    by_cases c0 : E = "java/util/NoSuchElementException"
    · have hw1 := (if_pos c0).symm.trans hw
      cases hw1
      subst c0
      refine vx_catch (name := "java/util/NoSuchElementException") hown [] ⟨0, 7, 10, 120⟩ [] htab (fun _ z => nomatch z) (by decide) (by decide) (hts _ gv_1071) (hts _ gv_1078) hcell hcv hcl ?_
      refine lv_astore_n (lv' := [(2, .ref q9), (0, .ref (G.2.1 0)), (1, .ref ho)]) hx hb dL_meanRank_10 rfl hl (by decide) rfl (fun ls hl => ?_)
      refine lv_iconst (v := 1) hx hb dL_meanRank_11 (by decide) ?_
      exact W.widen (Nat.le_of_ble_eq_true rfl) (Nat.le_of_ble_eq_true rfl) (vx_ret (W.iret (v := 1) hx hb hr (fun t2 ht2 _ => ⟨⟨_, (), rfl, rfl, by rw [ht2]; exact hB2, by rw [ht2]; exact hPo1⟩, hS.F ht2⟩) hS.2.2 dL_meanRank_12 hlocks))
    · have hw := (if_neg c0).symm.trans hw
      exact nomatch hw
  · subst hp
    subst ht
    exact absurd hw (fun z => nomatch z)
