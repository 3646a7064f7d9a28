theorem dL_condition_0 : decode cL_condition 0 = .ok (.aload_n 1, 1) := by decide +kernel
theorem dL_condition_1 : decode cL_condition 1 = .ok (.iconst 0, 1) := by decide +kernel
theorem dL_condition_2 : decode cL_condition 2 = .ok (.aload_n 0, 1) := by decide +kernel
theorem dL_condition_3 : decode cL_condition 3 = .ok (.invokevirtual 7, 3) := by decide +kernel
theorem dL_condition_6 : decode cL_condition 6 = .ok (.i2l, 1) := by decide +kernel
theorem dL_condition_7 : decode cL_condition 7 = .ok (.lastore, 1) := by decide +kernel
theorem dL_condition_8 : decode cL_condition 8 = .ok (.goto 6, 3) := by decide +kernel
theorem dL_condition_11 : decode cL_condition 11 = .ok (.astore_n 2, 1) := by decide +kernel
theorem dL_condition_12 : decode cL_condition 12 = .ok (.iconst 1, 1) := by decide +kernel
theorem dL_condition_13 : decode cL_condition 13 = .ok (.ireturn, 1) := by decide +kernel
theorem dL_condition_14 : decode cL_condition 14 = .ok (.iconst 0, 1) := by decide +kernel
theorem dL_condition_15 : decode cL_condition 15 = .ok (.ireturn, 1) := by decide +kernel
theorem dL_under_0 : decode cL_under 0 = .ok (.aload_n 3, 1) := by decide +kernel
theorem dL_under_1 : decode cL_under 1 = .ok (.iconst 0, 1) := by decide +kernel
theorem dL_under_2 : decode cL_under 2 = .ok (.aload_n 0, 1) := by decide +kernel
theorem dL_under_3 : decode cL_under 3 = .ok (.iload_n 1, 1) := by decide +kernel
theorem dL_under_4 : decode cL_under 4 = .ok (.iload_n 2, 1) := by decide +kernel
theorem dL_under_5 : decode cL_under 5 = .ok (.invokevirtual 15, 3) := by decide +kernel
theorem dL_under_8 : decode cL_under 8 = .ok (.i2l, 1) := by decide +kernel
theorem dL_under_9 : decode cL_under 9 = .ok (.lastore, 1) := by decide +kernel
theorem dL_under_10 : decode cL_under 10 = .ok (.goto 11, 3) := by decide +kernel
theorem dL_under_13 : decode cL_under 13 = .ok (.astore 4, 2) := by decide +kernel
theorem dL_under_15 : decode cL_under 15 = .ok (.iconst 1, 1) := by decide +kernel
theorem dL_under_16 : decode cL_under 16 = .ok (.ireturn, 1) := by decide +kernel
theorem dL_under_17 : decode cL_under 17 = .ok (.astore 4, 2) := by decide +kernel
theorem dL_under_19 : decode cL_under 19 = .ok (.iconst 2, 1) := by decide +kernel
theorem dL_under_20 : decode cL_under 20 = .ok (.ireturn, 1) := by decide +kernel
theorem dL_under_21 : decode cL_under 21 = .ok (.iconst 0, 1) := by decide +kernel
theorem dL_under_22 : decode cL_under 22 = .ok (.ireturn, 1) := by decide +kernel
theorem dL_isBelow_0 : decode cL_isBelow 0 = .ok (.aload_n 3, 1) := by decide +kernel
theorem dL_isBelow_1 : decode cL_isBelow 1 = .ok (.iconst 0, 1) := by decide +kernel
theorem dL_isBelow_2 : decode cL_isBelow 2 = .ok (.aload_n 0, 1) := by decide +kernel
theorem dL_isBelow_3 : decode cL_isBelow 3 = .ok (.iload_n 1, 1) := by decide +kernel
theorem dL_isBelow_4 : decode cL_isBelow 4 = .ok (.iload_n 2, 1) := by decide +kernel
theorem dL_isBelow_5 : decode cL_isBelow 5 = .ok (.invokevirtual 23, 3) := by decide +kernel
theorem dL_isBelow_8 : decode cL_isBelow 8 = .ok (.ifCond .eq 7, 3) := by decide +kernel
theorem dL_isBelow_11 : decode cL_isBelow 11 = .ok (.lconst 1, 1) := by decide +kernel
theorem dL_isBelow_12 : decode cL_isBelow 12 = .ok (.goto 4, 3) := by decide +kernel
theorem dL_isBelow_15 : decode cL_isBelow 15 = .ok (.lconst 0, 1) := by decide +kernel
theorem dL_isBelow_16 : decode cL_isBelow 16 = .ok (.lastore, 1) := by decide +kernel
theorem dL_isBelow_17 : decode cL_isBelow 17 = .ok (.goto 7, 3) := by decide +kernel
theorem dL_isBelow_20 : decode cL_isBelow 20 = .ok (.astore 4, 2) := by decide +kernel
theorem dL_isBelow_22 : decode cL_isBelow 22 = .ok (.iconst 1, 1) := by decide +kernel
theorem dL_isBelow_23 : decode cL_isBelow 23 = .ok (.ireturn, 1) := by decide +kernel
theorem dL_isBelow_24 : decode cL_isBelow 24 = .ok (.iconst 0, 1) := by decide +kernel
theorem dL_isBelow_25 : decode cL_isBelow 25 = .ok (.ireturn, 1) := by decide +kernel
theorem dL_fit_0 : decode cL_fit 0 = .ok (.aload_n 3, 1) := by decide +kernel
theorem dL_fit_1 : decode cL_fit 1 = .ok (.iconst 0, 1) := by decide +kernel
theorem dL_fit_2 : decode cL_fit 2 = .ok (.aload_n 0, 1) := by decide +kernel
theorem dL_fit_3 : decode cL_fit 3 = .ok (.iload_n 1, 1) := by decide +kernel
theorem dL_fit_4 : decode cL_fit 4 = .ok (.iload_n 2, 1) := by decide +kernel
theorem dL_fit_5 : decode cL_fit 5 = .ok (.invokevirtual 27, 3) := by decide +kernel
theorem dL_fit_8 : decode cL_fit 8 = .ok (.ifCond .eq 7, 3) := by decide +kernel
theorem dL_fit_11 : decode cL_fit 11 = .ok (.lconst 1, 1) := by decide +kernel
theorem dL_fit_12 : decode cL_fit 12 = .ok (.goto 4, 3) := by decide +kernel
theorem dL_fit_15 : decode cL_fit 15 = .ok (.lconst 0, 1) := by decide +kernel
theorem dL_fit_16 : decode cL_fit 16 = .ok (.lastore, 1) := by decide +kernel
theorem dL_fit_17 : decode cL_fit 17 = .ok (.goto 7, 3) := by decide +kernel
theorem dL_fit_20 : decode cL_fit 20 = .ok (.astore 4, 2) := by decide +kernel
theorem dL_fit_22 : decode cL_fit 22 = .ok (.iconst 1, 1) := by decide +kernel
theorem dL_fit_23 : decode cL_fit 23 = .ok (.ireturn, 1) := by decide +kernel
theorem dL_fit_24 : decode cL_fit 24 = .ok (.iconst 0, 1) := by decide +kernel
theorem dL_fit_25 : decode cL_fit 25 = .ok (.ireturn, 1) := by decide +kernel
theorem dL_isAntichain_0 : decode cL_isAntichain 0 = .ok (.aload_n 2, 1) := by decide +kernel
theorem dL_isAntichain_1 : decode cL_isAntichain 1 = .ok (.iconst 0, 1) := by decide +kernel
theorem dL_isAntichain_2 : decode cL_isAntichain 2 = .ok (.aload_n 0, 1) := by decide +kernel
theorem dL_isAntichain_3 : decode cL_isAntichain 3 = .ok (.iload_n 1, 1) := by decide +kernel
theorem dL_isAntichain_4 : decode cL_isAntichain 4 = .ok (.invokevirtual 30, 3) := by decide +kernel
theorem dL_isAntichain_7 : decode cL_isAntichain 7 = .ok (.ifCond .eq 7, 3) := by decide +kernel
theorem dL_isAntichain_10 : decode cL_isAntichain 10 = .ok (.lconst 1, 1) := by decide +kernel
theorem dL_isAntichain_11 : decode cL_isAntichain 11 = .ok (.goto 4, 3) := by decide +kernel
theorem dL_isAntichain_14 : decode cL_isAntichain 14 = .ok (.lconst 0, 1) := by decide +kernel
theorem dL_isAntichain_15 : decode cL_isAntichain 15 = .ok (.lastore, 1) := by decide +kernel
theorem dL_isAntichain_16 : decode cL_isAntichain 16 = .ok (.goto 6, 3) := by decide +kernel
theorem dL_isAntichain_19 : decode cL_isAntichain 19 = .ok (.astore_n 3, 1) := by decide +kernel
theorem dL_isAntichain_20 : decode cL_isAntichain 20 = .ok (.iconst 1, 1) := by decide +kernel
theorem dL_isAntichain_21 : decode cL_isAntichain 21 = .ok (.ireturn, 1) := by decide +kernel
theorem dL_isAntichain_22 : decode cL_isAntichain 22 = .ok (.iconst 0, 1) := by decide +kernel
theorem dL_isAntichain_23 : decode cL_isAntichain 23 = .ok (.ireturn, 1) := by decide +kernel
theorem dL_isDense_0 : decode cL_isDense 0 = .ok (.aload_n 2, 1) := by decide +kernel
theorem dL_isDense_1 : decode cL_isDense 1 = .ok (.iconst 0, 1) := by decide +kernel
theorem dL_isDense_2 : decode cL_isDense 2 = .ok (.aload_n 0, 1) := by decide +kernel
theorem dL_isDense_3 : decode cL_isDense 3 = .ok (.iload_n 1, 1) := by decide +kernel
theorem dL_isDense_4 : decode cL_isDense 4 = .ok (.invokevirtual 36, 3) := by decide +kernel
theorem dL_isDense_7 : decode cL_isDense 7 = .ok (.ifCond .eq 7, 3) := by decide +kernel
theorem dL_isDense_10 : decode cL_isDense 10 = .ok (.lconst 1, 1) := by decide +kernel
theorem dL_isDense_11 : decode cL_isDense 11 = .ok (.goto 4, 3) := by decide +kernel
theorem dL_isDense_14 : decode cL_isDense 14 = .ok (.lconst 0, 1) := by decide +kernel
theorem dL_isDense_15 : decode cL_isDense 15 = .ok (.lastore, 1) := by decide +kernel
theorem dL_isDense_16 : decode cL_isDense 16 = .ok (.goto 6, 3) := by decide +kernel
theorem dL_isDense_19 : decode cL_isDense 19 = .ok (.astore_n 3, 1) := by decide +kernel
theorem dL_isDense_20 : decode cL_isDense 20 = .ok (.iconst 1, 1) := by decide +kernel
theorem dL_isDense_21 : decode cL_isDense 21 = .ok (.ireturn, 1) := by decide +kernel
theorem dL_isDense_22 : decode cL_isDense 22 = .ok (.iconst 0, 1) := by decide +kernel
theorem dL_isDense_23 : decode cL_isDense 23 = .ok (.ireturn, 1) := by decide +kernel
theorem dL_isFilter_0 : decode cL_isFilter 0 = .ok (.aload_n 2, 1) := by decide +kernel
theorem dL_isFilter_1 : decode cL_isFilter 1 = .ok (.iconst 0, 1) := by decide +kernel
theorem dL_isFilter_2 : decode cL_isFilter 2 = .ok (.aload_n 0, 1) := by decide +kernel
theorem dL_isFilter_3 : decode cL_isFilter 3 = .ok (.iload_n 1, 1) := by decide +kernel
theorem dL_isFilter_4 : decode cL_isFilter 4 = .ok (.invokevirtual 39, 3) := by decide +kernel
theorem dL_isFilter_7 : decode cL_isFilter 7 = .ok (.ifCond .eq 7, 3) := by decide +kernel
theorem dL_isFilter_10 : decode cL_isFilter 10 = .ok (.lconst 1, 1) := by decide +kernel
theorem dL_isFilter_11 : decode cL_isFilter 11 = .ok (.goto 4, 3) := by decide +kernel
theorem dL_isFilter_14 : decode cL_isFilter 14 = .ok (.lconst 0, 1) := by decide +kernel
theorem dL_isFilter_15 : decode cL_isFilter 15 = .ok (.lastore, 1) := by decide +kernel
theorem dL_isFilter_16 : decode cL_isFilter 16 = .ok (.goto 6, 3) := by decide +kernel
theorem dL_isFilter_19 : decode cL_isFilter 19 = .ok (.astore_n 3, 1) := by decide +kernel
theorem dL_isFilter_20 : decode cL_isFilter 20 = .ok (.iconst 1, 1) := by decide +kernel
theorem dL_isFilter_21 : decode cL_isFilter 21 = .ok (.ireturn, 1) := by decide +kernel
theorem dL_isFilter_22 : decode cL_isFilter 22 = .ok (.iconst 0, 1) := by decide +kernel
theorem dL_isFilter_23 : decode cL_isFilter 23 = .ok (.ireturn, 1) := by decide +kernel
theorem dL_cut_0 : decode cL_cut 0 = .ok (.aload_n 2, 1) := by decide +kernel
theorem dL_cut_1 : decode cL_cut 1 = .ok (.iconst 0, 1) := by decide +kernel
theorem dL_cut_2 : decode cL_cut 2 = .ok (.aload_n 0, 1) := by decide +kernel
theorem dL_cut_3 : decode cL_cut 3 = .ok (.iload_n 1, 1) := by decide +kernel
theorem dL_cut_4 : decode cL_cut 4 = .ok (.invokevirtual 42, 3) := by decide +kernel
theorem dL_cut_7 : decode cL_cut 7 = .ok (.i2l, 1) := by decide +kernel
theorem dL_cut_8 : decode cL_cut 8 = .ok (.lastore, 1) := by decide +kernel
theorem dL_cut_9 : decode cL_cut 9 = .ok (.goto 6, 3) := by decide +kernel
theorem dL_cut_12 : decode cL_cut 12 = .ok (.astore_n 3, 1) := by decide +kernel
theorem dL_cut_13 : decode cL_cut 13 = .ok (.iconst 1, 1) := by decide +kernel
theorem dL_cut_14 : decode cL_cut 14 = .ok (.ireturn, 1) := by decide +kernel
theorem dL_cut_15 : decode cL_cut 15 = .ok (.iconst 0, 1) := by decide +kernel
theorem dL_cut_16 : decode cL_cut 16 = .ok (.ireturn, 1) := by decide +kernel
theorem dL_closure_0 : decode cL_closure 0 = .ok (.aload_n 2, 1) := by decide +kernel
theorem dL_closure_1 : decode cL_closure 1 = .ok (.iconst 0, 1) := by decide +kernel
theorem dL_closure_2 : decode cL_closure 2 = .ok (.aload_n 0, 1) := by decide +kernel
theorem dL_closure_3 : decode cL_closure 3 = .ok (.iload_n 1, 1) := by decide +kernel
theorem dL_closure_4 : decode cL_closure 4 = .ok (.invokevirtual 46, 3) := by decide +kernel
theorem dL_closure_7 : decode cL_closure 7 = .ok (.i2l, 1) := by decide +kernel
theorem dL_closure_8 : decode cL_closure 8 = .ok (.lastore, 1) := by decide +kernel
theorem dL_closure_9 : decode cL_closure 9 = .ok (.goto 6, 3) := by decide +kernel
theorem dL_closure_12 : decode cL_closure 12 = .ok (.astore_n 3, 1) := by decide +kernel
theorem dL_closure_13 : decode cL_closure 13 = .ok (.iconst 1, 1) := by decide +kernel
theorem dL_closure_14 : decode cL_closure 14 = .ok (.ireturn, 1) := by decide +kernel
theorem dL_closure_15 : decode cL_closure 15 = .ok (.iconst 0, 1) := by decide +kernel
theorem dL_closure_16 : decode cL_closure 16 = .ok (.ireturn, 1) := by decide +kernel
theorem dL_filterOf_0 : decode cL_filterOf 0 = .ok (.aload_n 2, 1) := by decide +kernel
theorem dL_filterOf_1 : decode cL_filterOf 1 = .ok (.iconst 0, 1) := by decide +kernel
theorem dL_filterOf_2 : decode cL_filterOf 2 = .ok (.aload_n 0, 1) := by decide +kernel
theorem dL_filterOf_3 : decode cL_filterOf 3 = .ok (.iload_n 1, 1) := by decide +kernel
theorem dL_filterOf_4 : decode cL_filterOf 4 = .ok (.invokevirtual 49, 3) := by decide +kernel
theorem dL_filterOf_7 : decode cL_filterOf 7 = .ok (.i2l, 1) := by decide +kernel
theorem dL_filterOf_8 : decode cL_filterOf 8 = .ok (.lastore, 1) := by decide +kernel
theorem dL_filterOf_9 : decode cL_filterOf 9 = .ok (.goto 6, 3) := by decide +kernel
theorem dL_filterOf_12 : decode cL_filterOf 12 = .ok (.astore_n 3, 1) := by decide +kernel
theorem dL_filterOf_13 : decode cL_filterOf 13 = .ok (.iconst 1, 1) := by decide +kernel
theorem dL_filterOf_14 : decode cL_filterOf 14 = .ok (.ireturn, 1) := by decide +kernel
theorem dL_filterOf_15 : decode cL_filterOf 15 = .ok (.iconst 0, 1) := by decide +kernel
theorem dL_filterOf_16 : decode cL_filterOf 16 = .ok (.ireturn, 1) := by decide +kernel
theorem dL_name_0 : decode cL_name 0 = .ok (.aload_n 1, 1) := by decide +kernel
theorem dL_name_1 : decode cL_name 1 = .ok (.iconst 0, 1) := by decide +kernel
theorem dL_name_2 : decode cL_name 2 = .ok (.aload_n 0, 1) := by decide +kernel
theorem dL_name_3 : decode cL_name 3 = .ok (.invokevirtual 52, 3) := by decide +kernel
theorem dL_name_6 : decode cL_name 6 = .ok (.i2l, 1) := by decide +kernel
theorem dL_name_7 : decode cL_name 7 = .ok (.lastore, 1) := by decide +kernel
theorem dL_name_8 : decode cL_name 8 = .ok (.goto 6, 3) := by decide +kernel
theorem dL_name_11 : decode cL_name 11 = .ok (.astore_n 2, 1) := by decide +kernel
theorem dL_name_12 : decode cL_name 12 = .ok (.iconst 1, 1) := by decide +kernel
theorem dL_name_13 : decode cL_name 13 = .ok (.ireturn, 1) := by decide +kernel
theorem dL_name_14 : decode cL_name 14 = .ok (.iconst 0, 1) := by decide +kernel
theorem dL_name_15 : decode cL_name 15 = .ok (.ireturn, 1) := by decide +kernel
theorem dL_pair_0 : decode cL_pair 0 = .ok (.aload 4, 2) := by decide +kernel
theorem dL_pair_2 : decode cL_pair 2 = .ok (.iconst 0, 1) := by decide +kernel
theorem dL_pair_3 : decode cL_pair 3 = .ok (.aload_n 0, 1) := by decide +kernel
theorem dL_pair_4 : decode cL_pair 4 = .ok (.iload_n 1, 1) := by decide +kernel
theorem dL_pair_5 : decode cL_pair 5 = .ok (.iload_n 2, 1) := by decide +kernel
theorem dL_pair_6 : decode cL_pair 6 = .ok (.iload_n 3, 1) := by decide +kernel
theorem dL_pair_7 : decode cL_pair 7 = .ok (.invokevirtual 55, 3) := by decide +kernel
theorem dL_pair_10 : decode cL_pair 10 = .ok (.i2l, 1) := by decide +kernel
theorem dL_pair_11 : decode cL_pair 11 = .ok (.lastore, 1) := by decide +kernel
theorem dL_pair_12 : decode cL_pair 12 = .ok (.goto 19, 3) := by decide +kernel
theorem dL_pair_15 : decode cL_pair 15 = .ok (.astore 5, 2) := by decide +kernel
theorem dL_pair_17 : decode cL_pair 17 = .ok (.iconst 1, 1) := by decide +kernel
theorem dL_pair_18 : decode cL_pair 18 = .ok (.ireturn, 1) := by decide +kernel
theorem dL_pair_19 : decode cL_pair 19 = .ok (.astore 5, 2) := by decide +kernel
theorem dL_pair_21 : decode cL_pair 21 = .ok (.iconst 2, 1) := by decide +kernel
theorem dL_pair_22 : decode cL_pair 22 = .ok (.ireturn, 1) := by decide +kernel
theorem dL_pair_23 : decode cL_pair 23 = .ok (.astore 5, 2) := by decide +kernel
theorem dL_pair_25 : decode cL_pair 25 = .ok (.iconst 3, 1) := by decide +kernel
theorem dL_pair_26 : decode cL_pair 26 = .ok (.ireturn, 1) := by decide +kernel
theorem dL_pair_27 : decode cL_pair 27 = .ok (.astore 5, 2) := by decide +kernel
theorem dL_pair_29 : decode cL_pair 29 = .ok (.iconst 4, 1) := by decide +kernel
theorem dL_pair_30 : decode cL_pair 30 = .ok (.ireturn, 1) := by decide +kernel
theorem dL_pair_31 : decode cL_pair 31 = .ok (.iconst 0, 1) := by decide +kernel
theorem dL_pair_32 : decode cL_pair 32 = .ok (.ireturn, 1) := by decide +kernel
theorem dL_unpair_0 : decode cL_unpair 0 = .ok (.aload_n 2, 1) := by decide +kernel
theorem dL_unpair_1 : decode cL_unpair 1 = .ok (.iconst 0, 1) := by decide +kernel
theorem dL_unpair_2 : decode cL_unpair 2 = .ok (.aload_n 0, 1) := by decide +kernel
theorem dL_unpair_3 : decode cL_unpair 3 = .ok (.iload_n 1, 1) := by decide +kernel
theorem dL_unpair_4 : decode cL_unpair 4 = .ok (.invokevirtual 59, 3) := by decide +kernel
theorem dL_unpair_7 : decode cL_unpair 7 = .ok (.i2l, 1) := by decide +kernel
theorem dL_unpair_8 : decode cL_unpair 8 = .ok (.lastore, 1) := by decide +kernel
theorem dL_unpair_9 : decode cL_unpair 9 = .ok (.goto 9, 3) := by decide +kernel
theorem dL_unpair_12 : decode cL_unpair 12 = .ok (.astore_n 3, 1) := by decide +kernel
theorem dL_unpair_13 : decode cL_unpair 13 = .ok (.iconst 1, 1) := by decide +kernel
theorem dL_unpair_14 : decode cL_unpair 14 = .ok (.ireturn, 1) := by decide +kernel
theorem dL_unpair_15 : decode cL_unpair 15 = .ok (.astore_n 3, 1) := by decide +kernel
theorem dL_unpair_16 : decode cL_unpair 16 = .ok (.iconst 2, 1) := by decide +kernel
theorem dL_unpair_17 : decode cL_unpair 17 = .ok (.ireturn, 1) := by decide +kernel
theorem dL_unpair_18 : decode cL_unpair 18 = .ok (.iconst 0, 1) := by decide +kernel
theorem dL_unpair_19 : decode cL_unpair 19 = .ok (.ireturn, 1) := by decide +kernel
theorem dL_rank_0 : decode cL_rank 0 = .ok (.aload_n 2, 1) := by decide +kernel
theorem dL_rank_1 : decode cL_rank 1 = .ok (.iconst 0, 1) := by decide +kernel
theorem dL_rank_2 : decode cL_rank 2 = .ok (.aload_n 0, 1) := by decide +kernel
theorem dL_rank_3 : decode cL_rank 3 = .ok (.iload_n 1, 1) := by decide +kernel
theorem dL_rank_4 : decode cL_rank 4 = .ok (.invokevirtual 62, 3) := by decide +kernel
theorem dL_rank_7 : decode cL_rank 7 = .ok (.i2l, 1) := by decide +kernel
theorem dL_rank_8 : decode cL_rank 8 = .ok (.lastore, 1) := by decide +kernel
theorem dL_rank_9 : decode cL_rank 9 = .ok (.goto 6, 3) := by decide +kernel
theorem dL_rank_12 : decode cL_rank 12 = .ok (.astore_n 3, 1) := by decide +kernel
theorem dL_rank_13 : decode cL_rank 13 = .ok (.iconst 1, 1) := by decide +kernel
theorem dL_rank_14 : decode cL_rank 14 = .ok (.ireturn, 1) := by decide +kernel
theorem dL_rank_15 : decode cL_rank 15 = .ok (.iconst 0, 1) := by decide +kernel
theorem dL_rank_16 : decode cL_rank 16 = .ok (.ireturn, 1) := by decide +kernel
theorem dL_standard_0 : decode cL_standard 0 = .ok (.aload_n 2, 1) := by decide +kernel
theorem dL_standard_1 : decode cL_standard 1 = .ok (.iconst 0, 1) := by decide +kernel
theorem dL_standard_2 : decode cL_standard 2 = .ok (.aload_n 0, 1) := by decide +kernel
theorem dL_standard_3 : decode cL_standard 3 = .ok (.iload_n 1, 1) := by decide +kernel
theorem dL_standard_4 : decode cL_standard 4 = .ok (.invokevirtual 65, 3) := by decide +kernel
theorem dL_standard_7 : decode cL_standard 7 = .ok (.i2l, 1) := by decide +kernel
theorem dL_standard_8 : decode cL_standard 8 = .ok (.lastore, 1) := by decide +kernel
theorem dL_standard_9 : decode cL_standard 9 = .ok (.goto 12, 3) := by decide +kernel
theorem dL_standard_12 : decode cL_standard 12 = .ok (.astore_n 3, 1) := by decide +kernel
theorem dL_standard_13 : decode cL_standard 13 = .ok (.iconst 1, 1) := by decide +kernel
theorem dL_standard_14 : decode cL_standard 14 = .ok (.ireturn, 1) := by decide +kernel
theorem dL_standard_15 : decode cL_standard 15 = .ok (.astore_n 3, 1) := by decide +kernel
theorem dL_standard_16 : decode cL_standard 16 = .ok (.iconst 2, 1) := by decide +kernel
theorem dL_standard_17 : decode cL_standard 17 = .ok (.ireturn, 1) := by decide +kernel
theorem dL_standard_18 : decode cL_standard 18 = .ok (.astore_n 3, 1) := by decide +kernel
theorem dL_standard_19 : decode cL_standard 19 = .ok (.iconst 3, 1) := by decide +kernel
theorem dL_standard_20 : decode cL_standard 20 = .ok (.ireturn, 1) := by decide +kernel
theorem dL_standard_21 : decode cL_standard 21 = .ok (.iconst 0, 1) := by decide +kernel
theorem dL_standard_22 : decode cL_standard 22 = .ok (.ireturn, 1) := by decide +kernel
theorem dL_becomes_0 : decode cL_becomes 0 = .ok (.aload_n 3, 1) := by decide +kernel
theorem dL_becomes_1 : decode cL_becomes 1 = .ok (.iconst 0, 1) := by decide +kernel
theorem dL_becomes_2 : decode cL_becomes 2 = .ok (.aload_n 0, 1) := by decide +kernel
theorem dL_becomes_3 : decode cL_becomes 3 = .ok (.iload_n 1, 1) := by decide +kernel
theorem dL_becomes_4 : decode cL_becomes 4 = .ok (.iload_n 2, 1) := by decide +kernel
theorem dL_becomes_5 : decode cL_becomes 5 = .ok (.invokevirtual 68, 3) := by decide +kernel
theorem dL_becomes_8 : decode cL_becomes 8 = .ok (.i2l, 1) := by decide +kernel
theorem dL_becomes_9 : decode cL_becomes 9 = .ok (.lastore, 1) := by decide +kernel
theorem dL_becomes_10 : decode cL_becomes 10 = .ok (.goto 11, 3) := by decide +kernel
theorem dL_becomes_13 : decode cL_becomes 13 = .ok (.astore 4, 2) := by decide +kernel
theorem dL_becomes_15 : decode cL_becomes 15 = .ok (.iconst 1, 1) := by decide +kernel
theorem dL_becomes_16 : decode cL_becomes 16 = .ok (.ireturn, 1) := by decide +kernel
theorem dL_becomes_17 : decode cL_becomes 17 = .ok (.astore 4, 2) := by decide +kernel
theorem dL_becomes_19 : decode cL_becomes 19 = .ok (.iconst 2, 1) := by decide +kernel
theorem dL_becomes_20 : decode cL_becomes 20 = .ok (.ireturn, 1) := by decide +kernel
theorem dL_becomes_21 : decode cL_becomes 21 = .ok (.iconst 0, 1) := by decide +kernel
theorem dL_becomes_22 : decode cL_becomes 22 = .ok (.ireturn, 1) := by decide +kernel
theorem dL_valueIn_0 : decode cL_valueIn 0 = .ok (.aload_n 3, 1) := by decide +kernel
theorem dL_valueIn_1 : decode cL_valueIn 1 = .ok (.iconst 0, 1) := by decide +kernel
theorem dL_valueIn_2 : decode cL_valueIn 2 = .ok (.aload_n 0, 1) := by decide +kernel
theorem dL_valueIn_3 : decode cL_valueIn 3 = .ok (.iload_n 1, 1) := by decide +kernel
theorem dL_valueIn_4 : decode cL_valueIn 4 = .ok (.iload_n 2, 1) := by decide +kernel
theorem dL_valueIn_5 : decode cL_valueIn 5 = .ok (.invokevirtual 71, 3) := by decide +kernel
theorem dL_valueIn_8 : decode cL_valueIn 8 = .ok (.i2l, 1) := by decide +kernel
theorem dL_valueIn_9 : decode cL_valueIn 9 = .ok (.lastore, 1) := by decide +kernel
theorem dL_valueIn_10 : decode cL_valueIn 10 = .ok (.goto 7, 3) := by decide +kernel
theorem dL_valueIn_13 : decode cL_valueIn 13 = .ok (.astore 4, 2) := by decide +kernel
theorem dL_valueIn_15 : decode cL_valueIn 15 = .ok (.iconst 1, 1) := by decide +kernel
theorem dL_valueIn_16 : decode cL_valueIn 16 = .ok (.ireturn, 1) := by decide +kernel
theorem dL_valueIn_17 : decode cL_valueIn 17 = .ok (.iconst 0, 1) := by decide +kernel
theorem dL_valueIn_18 : decode cL_valueIn 18 = .ok (.ireturn, 1) := by decide +kernel
theorem dL_valueLike_0 : decode cL_valueLike 0 = .ok (.aload_n 3, 1) := by decide +kernel
theorem dL_valueLike_1 : decode cL_valueLike 1 = .ok (.iconst 0, 1) := by decide +kernel
theorem dL_valueLike_2 : decode cL_valueLike 2 = .ok (.aload_n 0, 1) := by decide +kernel
theorem dL_valueLike_3 : decode cL_valueLike 3 = .ok (.iload_n 1, 1) := by decide +kernel
theorem dL_valueLike_4 : decode cL_valueLike 4 = .ok (.iload_n 2, 1) := by decide +kernel
theorem dL_valueLike_5 : decode cL_valueLike 5 = .ok (.invokevirtual 74, 3) := by decide +kernel
theorem dL_valueLike_8 : decode cL_valueLike 8 = .ok (.i2l, 1) := by decide +kernel
theorem dL_valueLike_9 : decode cL_valueLike 9 = .ok (.lastore, 1) := by decide +kernel
theorem dL_valueLike_10 : decode cL_valueLike 10 = .ok (.goto 7, 3) := by decide +kernel
theorem dL_valueLike_13 : decode cL_valueLike 13 = .ok (.astore 4, 2) := by decide +kernel
theorem dL_valueLike_15 : decode cL_valueLike 15 = .ok (.iconst 1, 1) := by decide +kernel
theorem dL_valueLike_16 : decode cL_valueLike 16 = .ok (.ireturn, 1) := by decide +kernel
theorem dL_valueLike_17 : decode cL_valueLike 17 = .ok (.iconst 0, 1) := by decide +kernel
theorem dL_valueLike_18 : decode cL_valueLike 18 = .ok (.ireturn, 1) := by decide +kernel
theorem dL_forcesIn_0 : decode cL_forcesIn 0 = .ok (.aload 4, 2) := by decide +kernel
theorem dL_forcesIn_2 : decode cL_forcesIn 2 = .ok (.iconst 0, 1) := by decide +kernel
theorem dL_forcesIn_3 : decode cL_forcesIn 3 = .ok (.aload_n 0, 1) := by decide +kernel
theorem dL_forcesIn_4 : decode cL_forcesIn 4 = .ok (.iload_n 1, 1) := by decide +kernel
theorem dL_forcesIn_5 : decode cL_forcesIn 5 = .ok (.iload_n 2, 1) := by decide +kernel
theorem dL_forcesIn_6 : decode cL_forcesIn 6 = .ok (.iload_n 3, 1) := by decide +kernel
theorem dL_forcesIn_7 : decode cL_forcesIn 7 = .ok (.invokevirtual 77, 3) := by decide +kernel
theorem dL_forcesIn_10 : decode cL_forcesIn 10 = .ok (.ifCond .eq 7, 3) := by decide +kernel
theorem dL_forcesIn_13 : decode cL_forcesIn 13 = .ok (.lconst 1, 1) := by decide +kernel
theorem dL_forcesIn_14 : decode cL_forcesIn 14 = .ok (.goto 4, 3) := by decide +kernel
theorem dL_forcesIn_17 : decode cL_forcesIn 17 = .ok (.lconst 0, 1) := by decide +kernel
theorem dL_forcesIn_18 : decode cL_forcesIn 18 = .ok (.lastore, 1) := by decide +kernel
theorem dL_forcesIn_19 : decode cL_forcesIn 19 = .ok (.goto 7, 3) := by decide +kernel
theorem dL_forcesIn_22 : decode cL_forcesIn 22 = .ok (.astore 5, 2) := by decide +kernel
theorem dL_forcesIn_24 : decode cL_forcesIn 24 = .ok (.iconst 1, 1) := by decide +kernel
theorem dL_forcesIn_25 : decode cL_forcesIn 25 = .ok (.ireturn, 1) := by decide +kernel
theorem dL_forcesIn_26 : decode cL_forcesIn 26 = .ok (.iconst 0, 1) := by decide +kernel
theorem dL_forcesIn_27 : decode cL_forcesIn 27 = .ok (.ireturn, 1) := by decide +kernel
theorem dL_forcesLike_0 : decode cL_forcesLike 0 = .ok (.aload 4, 2) := by decide +kernel
theorem dL_forcesLike_2 : decode cL_forcesLike 2 = .ok (.iconst 0, 1) := by decide +kernel
theorem dL_forcesLike_3 : decode cL_forcesLike 3 = .ok (.aload_n 0, 1) := by decide +kernel
theorem dL_forcesLike_4 : decode cL_forcesLike 4 = .ok (.iload_n 1, 1) := by decide +kernel
theorem dL_forcesLike_5 : decode cL_forcesLike 5 = .ok (.iload_n 2, 1) := by decide +kernel
theorem dL_forcesLike_6 : decode cL_forcesLike 6 = .ok (.iload_n 3, 1) := by decide +kernel
theorem dL_forcesLike_7 : decode cL_forcesLike 7 = .ok (.invokevirtual 81, 3) := by decide +kernel
theorem dL_forcesLike_10 : decode cL_forcesLike 10 = .ok (.ifCond .eq 7, 3) := by decide +kernel
theorem dL_forcesLike_13 : decode cL_forcesLike 13 = .ok (.lconst 1, 1) := by decide +kernel
theorem dL_forcesLike_14 : decode cL_forcesLike 14 = .ok (.goto 4, 3) := by decide +kernel
theorem dL_forcesLike_17 : decode cL_forcesLike 17 = .ok (.lconst 0, 1) := by decide +kernel
theorem dL_forcesLike_18 : decode cL_forcesLike 18 = .ok (.lastore, 1) := by decide +kernel
theorem dL_forcesLike_19 : decode cL_forcesLike 19 = .ok (.goto 7, 3) := by decide +kernel
theorem dL_forcesLike_22 : decode cL_forcesLike 22 = .ok (.astore 5, 2) := by decide +kernel
theorem dL_forcesLike_24 : decode cL_forcesLike 24 = .ok (.iconst 1, 1) := by decide +kernel
theorem dL_forcesLike_25 : decode cL_forcesLike 25 = .ok (.ireturn, 1) := by decide +kernel
theorem dL_forcesLike_26 : decode cL_forcesLike 26 = .ok (.iconst 0, 1) := by decide +kernel
theorem dL_forcesLike_27 : decode cL_forcesLike 27 = .ok (.ireturn, 1) := by decide +kernel
theorem dL_mix_0 : decode cL_mix 0 = .ok (.aload 5, 2) := by decide +kernel
theorem dL_mix_2 : decode cL_mix 2 = .ok (.iconst 0, 1) := by decide +kernel
theorem dL_mix_3 : decode cL_mix 3 = .ok (.aload_n 0, 1) := by decide +kernel
theorem dL_mix_4 : decode cL_mix 4 = .ok (.iload_n 1, 1) := by decide +kernel
theorem dL_mix_5 : decode cL_mix 5 = .ok (.iload_n 2, 1) := by decide +kernel
theorem dL_mix_6 : decode cL_mix 6 = .ok (.iload_n 3, 1) := by decide +kernel
theorem dL_mix_7 : decode cL_mix 7 = .ok (.iload 4, 2) := by decide +kernel
theorem dL_mix_9 : decode cL_mix 9 = .ok (.invokevirtual 84, 3) := by decide +kernel
theorem dL_mix_12 : decode cL_mix 12 = .ok (.i2l, 1) := by decide +kernel
theorem dL_mix_13 : decode cL_mix 13 = .ok (.lastore, 1) := by decide +kernel
theorem dL_mix_14 : decode cL_mix 14 = .ok (.goto 15, 3) := by decide +kernel
theorem dL_mix_17 : decode cL_mix 17 = .ok (.astore 6, 2) := by decide +kernel
theorem dL_mix_19 : decode cL_mix 19 = .ok (.iconst 1, 1) := by decide +kernel
theorem dL_mix_20 : decode cL_mix 20 = .ok (.ireturn, 1) := by decide +kernel
theorem dL_mix_21 : decode cL_mix 21 = .ok (.astore 6, 2) := by decide +kernel
theorem dL_mix_23 : decode cL_mix 23 = .ok (.iconst 2, 1) := by decide +kernel
theorem dL_mix_24 : decode cL_mix 24 = .ok (.ireturn, 1) := by decide +kernel
theorem dL_mix_25 : decode cL_mix 25 = .ok (.astore 6, 2) := by decide +kernel
theorem dL_mix_27 : decode cL_mix 27 = .ok (.iconst 3, 1) := by decide +kernel
theorem dL_mix_28 : decode cL_mix 28 = .ok (.ireturn, 1) := by decide +kernel
theorem dL_mix_29 : decode cL_mix 29 = .ok (.iconst 0, 1) := by decide +kernel
theorem dL_mix_30 : decode cL_mix 30 = .ok (.ireturn, 1) := by decide +kernel
theorem dL_atom_0 : decode cL_atom 0 = .ok (.aload 4, 2) := by decide +kernel
theorem dL_atom_2 : decode cL_atom 2 = .ok (.iconst 0, 1) := by decide +kernel
theorem dL_atom_3 : decode cL_atom 3 = .ok (.aload_n 0, 1) := by decide +kernel
theorem dL_atom_4 : decode cL_atom 4 = .ok (.iload_n 1, 1) := by decide +kernel
theorem dL_atom_5 : decode cL_atom 5 = .ok (.iload_n 2, 1) := by decide +kernel
theorem dL_atom_6 : decode cL_atom 6 = .ok (.iload_n 3, 1) := by decide +kernel
theorem dL_atom_7 : decode cL_atom 7 = .ok (.invokevirtual 88, 3) := by decide +kernel
theorem dL_atom_10 : decode cL_atom 10 = .ok (.i2l, 1) := by decide +kernel
theorem dL_atom_11 : decode cL_atom 11 = .ok (.lastore, 1) := by decide +kernel
theorem dL_atom_12 : decode cL_atom 12 = .ok (.goto 11, 3) := by decide +kernel
theorem dL_atom_15 : decode cL_atom 15 = .ok (.astore 5, 2) := by decide +kernel
theorem dL_atom_17 : decode cL_atom 17 = .ok (.iconst 1, 1) := by decide +kernel
theorem dL_atom_18 : decode cL_atom 18 = .ok (.ireturn, 1) := by decide +kernel
theorem dL_atom_19 : decode cL_atom 19 = .ok (.astore 5, 2) := by decide +kernel
theorem dL_atom_21 : decode cL_atom 21 = .ok (.iconst 2, 1) := by decide +kernel
theorem dL_atom_22 : decode cL_atom 22 = .ok (.ireturn, 1) := by decide +kernel
theorem dL_atom_23 : decode cL_atom 23 = .ok (.iconst 0, 1) := by decide +kernel
theorem dL_atom_24 : decode cL_atom 24 = .ok (.ireturn, 1) := by decide +kernel
theorem dL_both_0 : decode cL_both 0 = .ok (.aload 4, 2) := by decide +kernel
theorem dL_both_2 : decode cL_both 2 = .ok (.iconst 0, 1) := by decide +kernel
theorem dL_both_3 : decode cL_both 3 = .ok (.aload_n 0, 1) := by decide +kernel
theorem dL_both_4 : decode cL_both 4 = .ok (.iload_n 1, 1) := by decide +kernel
theorem dL_both_5 : decode cL_both 5 = .ok (.iload_n 2, 1) := by decide +kernel
theorem dL_both_6 : decode cL_both 6 = .ok (.iload_n 3, 1) := by decide +kernel
theorem dL_both_7 : decode cL_both 7 = .ok (.invokevirtual 92, 3) := by decide +kernel
theorem dL_both_10 : decode cL_both 10 = .ok (.i2l, 1) := by decide +kernel
theorem dL_both_11 : decode cL_both 11 = .ok (.lastore, 1) := by decide +kernel
theorem dL_both_12 : decode cL_both 12 = .ok (.goto 19, 3) := by decide +kernel
theorem dL_both_15 : decode cL_both 15 = .ok (.astore 5, 2) := by decide +kernel
theorem dL_both_17 : decode cL_both 17 = .ok (.iconst 1, 1) := by decide +kernel
theorem dL_both_18 : decode cL_both 18 = .ok (.ireturn, 1) := by decide +kernel
theorem dL_both_19 : decode cL_both 19 = .ok (.astore 5, 2) := by decide +kernel
theorem dL_both_21 : decode cL_both 21 = .ok (.iconst 2, 1) := by decide +kernel
theorem dL_both_22 : decode cL_both 22 = .ok (.ireturn, 1) := by decide +kernel
theorem dL_both_23 : decode cL_both 23 = .ok (.astore 5, 2) := by decide +kernel
theorem dL_both_25 : decode cL_both 25 = .ok (.iconst 3, 1) := by decide +kernel
theorem dL_both_26 : decode cL_both 26 = .ok (.ireturn, 1) := by decide +kernel
theorem dL_both_27 : decode cL_both 27 = .ok (.astore 5, 2) := by decide +kernel
theorem dL_both_29 : decode cL_both 29 = .ok (.iconst 4, 1) := by decide +kernel
theorem dL_both_30 : decode cL_both 30 = .ok (.ireturn, 1) := by decide +kernel
theorem dL_both_31 : decode cL_both 31 = .ok (.iconst 0, 1) := by decide +kernel
theorem dL_both_32 : decode cL_both 32 = .ok (.ireturn, 1) := by decide +kernel
theorem dL_not_0 : decode cL_not 0 = .ok (.aload_n 2, 1) := by decide +kernel
theorem dL_not_1 : decode cL_not 1 = .ok (.iconst 0, 1) := by decide +kernel
theorem dL_not_2 : decode cL_not 2 = .ok (.aload_n 0, 1) := by decide +kernel
theorem dL_not_3 : decode cL_not 3 = .ok (.iload_n 1, 1) := by decide +kernel
theorem dL_not_4 : decode cL_not 4 = .ok (.invokevirtual 95, 3) := by decide +kernel
theorem dL_not_7 : decode cL_not 7 = .ok (.i2l, 1) := by decide +kernel
theorem dL_not_8 : decode cL_not 8 = .ok (.lastore, 1) := by decide +kernel
theorem dL_not_9 : decode cL_not 9 = .ok (.goto 12, 3) := by decide +kernel
theorem dL_not_12 : decode cL_not 12 = .ok (.astore_n 3, 1) := by decide +kernel
theorem dL_not_13 : decode cL_not 13 = .ok (.iconst 1, 1) := by decide +kernel
theorem dL_not_14 : decode cL_not 14 = .ok (.ireturn, 1) := by decide +kernel
theorem dL_not_15 : decode cL_not 15 = .ok (.astore_n 3, 1) := by decide +kernel
theorem dL_not_16 : decode cL_not 16 = .ok (.iconst 2, 1) := by decide +kernel
theorem dL_not_17 : decode cL_not 17 = .ok (.ireturn, 1) := by decide +kernel
theorem dL_not_18 : decode cL_not 18 = .ok (.astore_n 3, 1) := by decide +kernel
theorem dL_not_19 : decode cL_not 19 = .ok (.iconst 3, 1) := by decide +kernel
theorem dL_not_20 : decode cL_not 20 = .ok (.ireturn, 1) := by decide +kernel
theorem dL_not_21 : decode cL_not 21 = .ok (.iconst 0, 1) := by decide +kernel
theorem dL_not_22 : decode cL_not 22 = .ok (.ireturn, 1) := by decide +kernel
theorem dL_bind_0 : decode cL_bind 0 = .ok (.aload 5, 2) := by decide +kernel
theorem dL_bind_2 : decode cL_bind 2 = .ok (.iconst 0, 1) := by decide +kernel
theorem dL_bind_3 : decode cL_bind 3 = .ok (.aload_n 0, 1) := by decide +kernel
theorem dL_bind_4 : decode cL_bind 4 = .ok (.iload_n 1, 1) := by decide +kernel
theorem dL_bind_5 : decode cL_bind 5 = .ok (.iload_n 2, 1) := by decide +kernel
theorem dL_bind_6 : decode cL_bind 6 = .ok (.iload_n 3, 1) := by decide +kernel
theorem dL_bind_7 : decode cL_bind 7 = .ok (.iload 4, 2) := by decide +kernel
theorem dL_bind_9 : decode cL_bind 9 = .ok (.invokevirtual 98, 3) := by decide +kernel
theorem dL_bind_12 : decode cL_bind 12 = .ok (.i2l, 1) := by decide +kernel
theorem dL_bind_13 : decode cL_bind 13 = .ok (.lastore, 1) := by decide +kernel
theorem dL_bind_14 : decode cL_bind 14 = .ok (.goto 19, 3) := by decide +kernel
theorem dL_bind_17 : decode cL_bind 17 = .ok (.astore 6, 2) := by decide +kernel
theorem dL_bind_19 : decode cL_bind 19 = .ok (.iconst 1, 1) := by decide +kernel
theorem dL_bind_20 : decode cL_bind 20 = .ok (.ireturn, 1) := by decide +kernel
theorem dL_bind_21 : decode cL_bind 21 = .ok (.astore 6, 2) := by decide +kernel
theorem dL_bind_23 : decode cL_bind 23 = .ok (.iconst 2, 1) := by decide +kernel
theorem dL_bind_24 : decode cL_bind 24 = .ok (.ireturn, 1) := by decide +kernel
theorem dL_bind_25 : decode cL_bind 25 = .ok (.astore 6, 2) := by decide +kernel
theorem dL_bind_27 : decode cL_bind 27 = .ok (.iconst 3, 1) := by decide +kernel
theorem dL_bind_28 : decode cL_bind 28 = .ok (.ireturn, 1) := by decide +kernel
theorem dL_bind_29 : decode cL_bind 29 = .ok (.astore 6, 2) := by decide +kernel
theorem dL_bind_31 : decode cL_bind 31 = .ok (.iconst 4, 1) := by decide +kernel
theorem dL_bind_32 : decode cL_bind 32 = .ok (.ireturn, 1) := by decide +kernel
theorem dL_bind_33 : decode cL_bind 33 = .ok (.iconst 0, 1) := by decide +kernel
theorem dL_bind_34 : decode cL_bind 34 = .ok (.ireturn, 1) := by decide +kernel
theorem dL_free_0 : decode cL_free 0 = .ok (.aload_n 2, 1) := by decide +kernel
theorem dL_free_1 : decode cL_free 1 = .ok (.iconst 0, 1) := by decide +kernel
theorem dL_free_2 : decode cL_free 2 = .ok (.aload_n 0, 1) := by decide +kernel
theorem dL_free_3 : decode cL_free 3 = .ok (.iload_n 1, 1) := by decide +kernel
theorem dL_free_4 : decode cL_free 4 = .ok (.invokevirtual 102, 3) := by decide +kernel
theorem dL_free_7 : decode cL_free 7 = .ok (.i2l, 1) := by decide +kernel
theorem dL_free_8 : decode cL_free 8 = .ok (.lastore, 1) := by decide +kernel
theorem dL_free_9 : decode cL_free 9 = .ok (.goto 6, 3) := by decide +kernel
theorem dL_free_12 : decode cL_free 12 = .ok (.astore_n 3, 1) := by decide +kernel
theorem dL_free_13 : decode cL_free 13 = .ok (.iconst 1, 1) := by decide +kernel
theorem dL_free_14 : decode cL_free 14 = .ok (.ireturn, 1) := by decide +kernel
theorem dL_free_15 : decode cL_free 15 = .ok (.iconst 0, 1) := by decide +kernel
theorem dL_free_16 : decode cL_free 16 = .ok (.ireturn, 1) := by decide +kernel
theorem dL_value_0 : decode cL_value 0 = .ok (.aload_n 2, 1) := by decide +kernel
theorem dL_value_1 : decode cL_value 1 = .ok (.iconst 0, 1) := by decide +kernel
theorem dL_value_2 : decode cL_value 2 = .ok (.aload_n 0, 1) := by decide +kernel
theorem dL_value_3 : decode cL_value 3 = .ok (.iload_n 1, 1) := by decide +kernel
theorem dL_value_4 : decode cL_value 4 = .ok (.invokevirtual 105, 3) := by decide +kernel
theorem dL_value_7 : decode cL_value 7 = .ok (.i2l, 1) := by decide +kernel
theorem dL_value_8 : decode cL_value 8 = .ok (.lastore, 1) := by decide +kernel
theorem dL_value_9 : decode cL_value 9 = .ok (.goto 9, 3) := by decide +kernel
theorem dL_value_12 : decode cL_value 12 = .ok (.astore_n 3, 1) := by decide +kernel
theorem dL_value_13 : decode cL_value 13 = .ok (.iconst 1, 1) := by decide +kernel
theorem dL_value_14 : decode cL_value 14 = .ok (.ireturn, 1) := by decide +kernel
theorem dL_value_15 : decode cL_value 15 = .ok (.astore_n 3, 1) := by decide +kernel
theorem dL_value_16 : decode cL_value 16 = .ok (.iconst 2, 1) := by decide +kernel
theorem dL_value_17 : decode cL_value 17 = .ok (.ireturn, 1) := by decide +kernel
theorem dL_value_18 : decode cL_value 18 = .ok (.iconst 0, 1) := by decide +kernel
theorem dL_value_19 : decode cL_value 19 = .ok (.ireturn, 1) := by decide +kernel
theorem dL_forces_0 : decode cL_forces 0 = .ok (.aload_n 3, 1) := by decide +kernel
theorem dL_forces_1 : decode cL_forces 1 = .ok (.iconst 0, 1) := by decide +kernel
theorem dL_forces_2 : decode cL_forces 2 = .ok (.aload_n 0, 1) := by decide +kernel
theorem dL_forces_3 : decode cL_forces 3 = .ok (.iload_n 1, 1) := by decide +kernel
theorem dL_forces_4 : decode cL_forces 4 = .ok (.iload_n 2, 1) := by decide +kernel
theorem dL_forces_5 : decode cL_forces 5 = .ok (.invokevirtual 108, 3) := by decide +kernel
theorem dL_forces_8 : decode cL_forces 8 = .ok (.ifCond .eq 7, 3) := by decide +kernel
theorem dL_forces_11 : decode cL_forces 11 = .ok (.lconst 1, 1) := by decide +kernel
theorem dL_forces_12 : decode cL_forces 12 = .ok (.goto 4, 3) := by decide +kernel
theorem dL_forces_15 : decode cL_forces 15 = .ok (.lconst 0, 1) := by decide +kernel
theorem dL_forces_16 : decode cL_forces 16 = .ok (.lastore, 1) := by decide +kernel
theorem dL_forces_17 : decode cL_forces 17 = .ok (.goto 11, 3) := by decide +kernel
theorem dL_forces_20 : decode cL_forces 20 = .ok (.astore 4, 2) := by decide +kernel
theorem dL_forces_22 : decode cL_forces 22 = .ok (.iconst 1, 1) := by decide +kernel
theorem dL_forces_23 : decode cL_forces 23 = .ok (.ireturn, 1) := by decide +kernel
theorem dL_forces_24 : decode cL_forces 24 = .ok (.astore 4, 2) := by decide +kernel
theorem dL_forces_26 : decode cL_forces 26 = .ok (.iconst 2, 1) := by decide +kernel
theorem dL_forces_27 : decode cL_forces 27 = .ok (.ireturn, 1) := by decide +kernel
theorem dL_forces_28 : decode cL_forces 28 = .ok (.iconst 0, 1) := by decide +kernel
theorem dL_forces_29 : decode cL_forces 29 = .ok (.ireturn, 1) := by decide +kernel
theorem dL_weakly_0 : decode cL_weakly 0 = .ok (.aload_n 3, 1) := by decide +kernel
theorem dL_weakly_1 : decode cL_weakly 1 = .ok (.iconst 0, 1) := by decide +kernel
theorem dL_weakly_2 : decode cL_weakly 2 = .ok (.aload_n 0, 1) := by decide +kernel
theorem dL_weakly_3 : decode cL_weakly 3 = .ok (.iload_n 1, 1) := by decide +kernel
theorem dL_weakly_4 : decode cL_weakly 4 = .ok (.iload_n 2, 1) := by decide +kernel
theorem dL_weakly_5 : decode cL_weakly 5 = .ok (.invokevirtual 111, 3) := by decide +kernel
theorem dL_weakly_8 : decode cL_weakly 8 = .ok (.ifCond .eq 7, 3) := by decide +kernel
theorem dL_weakly_11 : decode cL_weakly 11 = .ok (.lconst 1, 1) := by decide +kernel
theorem dL_weakly_12 : decode cL_weakly 12 = .ok (.goto 4, 3) := by decide +kernel
theorem dL_weakly_15 : decode cL_weakly 15 = .ok (.lconst 0, 1) := by decide +kernel
theorem dL_weakly_16 : decode cL_weakly 16 = .ok (.lastore, 1) := by decide +kernel
theorem dL_weakly_17 : decode cL_weakly 17 = .ok (.goto 11, 3) := by decide +kernel
theorem dL_weakly_20 : decode cL_weakly 20 = .ok (.astore 4, 2) := by decide +kernel
theorem dL_weakly_22 : decode cL_weakly 22 = .ok (.iconst 1, 1) := by decide +kernel
theorem dL_weakly_23 : decode cL_weakly 23 = .ok (.ireturn, 1) := by decide +kernel
theorem dL_weakly_24 : decode cL_weakly 24 = .ok (.astore 4, 2) := by decide +kernel
theorem dL_weakly_26 : decode cL_weakly 26 = .ok (.iconst 2, 1) := by decide +kernel
theorem dL_weakly_27 : decode cL_weakly 27 = .ok (.ireturn, 1) := by decide +kernel
theorem dL_weakly_28 : decode cL_weakly 28 = .ok (.iconst 0, 1) := by decide +kernel
theorem dL_weakly_29 : decode cL_weakly 29 = .ok (.ireturn, 1) := by decide +kernel
theorem dL_holds_0 : decode cL_holds 0 = .ok (.aload_n 3, 1) := by decide +kernel
theorem dL_holds_1 : decode cL_holds 1 = .ok (.iconst 0, 1) := by decide +kernel
theorem dL_holds_2 : decode cL_holds 2 = .ok (.aload_n 0, 1) := by decide +kernel
theorem dL_holds_3 : decode cL_holds 3 = .ok (.iload_n 1, 1) := by decide +kernel
theorem dL_holds_4 : decode cL_holds 4 = .ok (.iload_n 2, 1) := by decide +kernel
theorem dL_holds_5 : decode cL_holds 5 = .ok (.invokevirtual 114, 3) := by decide +kernel
theorem dL_holds_8 : decode cL_holds 8 = .ok (.ifCond .eq 7, 3) := by decide +kernel
theorem dL_holds_11 : decode cL_holds 11 = .ok (.lconst 1, 1) := by decide +kernel
theorem dL_holds_12 : decode cL_holds 12 = .ok (.goto 4, 3) := by decide +kernel
theorem dL_holds_15 : decode cL_holds 15 = .ok (.lconst 0, 1) := by decide +kernel
theorem dL_holds_16 : decode cL_holds 16 = .ok (.lastore, 1) := by decide +kernel
theorem dL_holds_17 : decode cL_holds 17 = .ok (.goto 15, 3) := by decide +kernel
theorem dL_holds_20 : decode cL_holds 20 = .ok (.astore 4, 2) := by decide +kernel
theorem dL_holds_22 : decode cL_holds 22 = .ok (.iconst 1, 1) := by decide +kernel
theorem dL_holds_23 : decode cL_holds 23 = .ok (.ireturn, 1) := by decide +kernel
theorem dL_holds_24 : decode cL_holds 24 = .ok (.astore 4, 2) := by decide +kernel
theorem dL_holds_26 : decode cL_holds 26 = .ok (.iconst 2, 1) := by decide +kernel
theorem dL_holds_27 : decode cL_holds 27 = .ok (.ireturn, 1) := by decide +kernel
theorem dL_holds_28 : decode cL_holds 28 = .ok (.astore 4, 2) := by decide +kernel
theorem dL_holds_30 : decode cL_holds 30 = .ok (.iconst 3, 1) := by decide +kernel
theorem dL_holds_31 : decode cL_holds 31 = .ok (.ireturn, 1) := by decide +kernel
theorem dL_holds_32 : decode cL_holds 32 = .ok (.iconst 0, 1) := by decide +kernel
theorem dL_holds_33 : decode cL_holds 33 = .ok (.ireturn, 1) := by decide +kernel
theorem dL_against_0 : decode cL_against 0 = .ok (.aload_n 2, 1) := by decide +kernel
theorem dL_against_1 : decode cL_against 1 = .ok (.iconst 0, 1) := by decide +kernel
theorem dL_against_2 : decode cL_against 2 = .ok (.aload_n 0, 1) := by decide +kernel
theorem dL_against_3 : decode cL_against 3 = .ok (.iload_n 1, 1) := by decide +kernel
theorem dL_against_4 : decode cL_against 4 = .ok (.invokevirtual 117, 3) := by decide +kernel
theorem dL_against_7 : decode cL_against 7 = .ok (.i2l, 1) := by decide +kernel
theorem dL_against_8 : decode cL_against 8 = .ok (.lastore, 1) := by decide +kernel
theorem dL_against_9 : decode cL_against 9 = .ok (.goto 12, 3) := by decide +kernel
theorem dL_against_12 : decode cL_against 12 = .ok (.astore_n 3, 1) := by decide +kernel
theorem dL_against_13 : decode cL_against 13 = .ok (.iconst 1, 1) := by decide +kernel
theorem dL_against_14 : decode cL_against 14 = .ok (.ireturn, 1) := by decide +kernel
theorem dL_against_15 : decode cL_against 15 = .ok (.astore_n 3, 1) := by decide +kernel
theorem dL_against_16 : decode cL_against 16 = .ok (.iconst 2, 1) := by decide +kernel
theorem dL_against_17 : decode cL_against 17 = .ok (.ireturn, 1) := by decide +kernel
theorem dL_against_18 : decode cL_against 18 = .ok (.astore_n 3, 1) := by decide +kernel
theorem dL_against_19 : decode cL_against 19 = .ok (.iconst 3, 1) := by decide +kernel
theorem dL_against_20 : decode cL_against 20 = .ok (.ireturn, 1) := by decide +kernel
theorem dL_against_21 : decode cL_against 21 = .ok (.iconst 0, 1) := by decide +kernel
theorem dL_against_22 : decode cL_against 22 = .ok (.ireturn, 1) := by decide +kernel
theorem dL_swap_0 : decode cL_swap 0 = .ok (.aload_n 3, 1) := by decide +kernel
theorem dL_swap_1 : decode cL_swap 1 = .ok (.iconst 0, 1) := by decide +kernel
theorem dL_swap_2 : decode cL_swap 2 = .ok (.aload_n 0, 1) := by decide +kernel
theorem dL_swap_3 : decode cL_swap 3 = .ok (.iload_n 1, 1) := by decide +kernel
theorem dL_swap_4 : decode cL_swap 4 = .ok (.iload_n 2, 1) := by decide +kernel
theorem dL_swap_5 : decode cL_swap 5 = .ok (.invokevirtual 122, 3) := by decide +kernel
theorem dL_swap_8 : decode cL_swap 8 = .ok (.ifCond .eq 7, 3) := by decide +kernel
theorem dL_swap_11 : decode cL_swap 11 = .ok (.lconst 1, 1) := by decide +kernel
theorem dL_swap_12 : decode cL_swap 12 = .ok (.goto 4, 3) := by decide +kernel
theorem dL_swap_15 : decode cL_swap 15 = .ok (.lconst 0, 1) := by decide +kernel
theorem dL_swap_16 : decode cL_swap 16 = .ok (.lastore, 1) := by decide +kernel
theorem dL_swap_17 : decode cL_swap 17 = .ok (.goto 7, 3) := by decide +kernel
theorem dL_swap_20 : decode cL_swap 20 = .ok (.astore 4, 2) := by decide +kernel
theorem dL_swap_22 : decode cL_swap 22 = .ok (.iconst 1, 1) := by decide +kernel
theorem dL_swap_23 : decode cL_swap 23 = .ok (.ireturn, 1) := by decide +kernel
theorem dL_swap_24 : decode cL_swap 24 = .ok (.iconst 0, 1) := by decide +kernel
theorem dL_swap_25 : decode cL_swap 25 = .ok (.ireturn, 1) := by decide +kernel
theorem dL_goes_0 : decode cL_goes 0 = .ok (.aload_n 2, 1) := by decide +kernel
theorem dL_goes_1 : decode cL_goes 1 = .ok (.iconst 0, 1) := by decide +kernel
theorem dL_goes_2 : decode cL_goes 2 = .ok (.aload_n 0, 1) := by decide +kernel
theorem dL_goes_3 : decode cL_goes 3 = .ok (.iload_n 1, 1) := by decide +kernel
theorem dL_goes_4 : decode cL_goes 4 = .ok (.invokevirtual 125, 3) := by decide +kernel
theorem dL_goes_7 : decode cL_goes 7 = .ok (.i2l, 1) := by decide +kernel
theorem dL_goes_8 : decode cL_goes 8 = .ok (.lastore, 1) := by decide +kernel
theorem dL_goes_9 : decode cL_goes 9 = .ok (.goto 6, 3) := by decide +kernel
theorem dL_goes_12 : decode cL_goes 12 = .ok (.astore_n 3, 1) := by decide +kernel
theorem dL_goes_13 : decode cL_goes 13 = .ok (.iconst 1, 1) := by decide +kernel
theorem dL_goes_14 : decode cL_goes 14 = .ok (.ireturn, 1) := by decide +kernel
theorem dL_goes_15 : decode cL_goes 15 = .ok (.iconst 0, 1) := by decide +kernel
theorem dL_goes_16 : decode cL_goes 16 = .ok (.ireturn, 1) := by decide +kernel
theorem dL_isFixed_0 : decode cL_isFixed 0 = .ok (.aload_n 2, 1) := by decide +kernel
theorem dL_isFixed_1 : decode cL_isFixed 1 = .ok (.iconst 0, 1) := by decide +kernel
theorem dL_isFixed_2 : decode cL_isFixed 2 = .ok (.aload_n 0, 1) := by decide +kernel
theorem dL_isFixed_3 : decode cL_isFixed 3 = .ok (.iload_n 1, 1) := by decide +kernel
theorem dL_isFixed_4 : decode cL_isFixed 4 = .ok (.invokevirtual 128, 3) := by decide +kernel
theorem dL_isFixed_7 : decode cL_isFixed 7 = .ok (.ifCond .eq 7, 3) := by decide +kernel
theorem dL_isFixed_10 : decode cL_isFixed 10 = .ok (.lconst 1, 1) := by decide +kernel
theorem dL_isFixed_11 : decode cL_isFixed 11 = .ok (.goto 4, 3) := by decide +kernel
theorem dL_isFixed_14 : decode cL_isFixed 14 = .ok (.lconst 0, 1) := by decide +kernel
theorem dL_isFixed_15 : decode cL_isFixed 15 = .ok (.lastore, 1) := by decide +kernel
theorem dL_isFixed_16 : decode cL_isFixed 16 = .ok (.goto 9, 3) := by decide +kernel
theorem dL_isFixed_19 : decode cL_isFixed 19 = .ok (.astore_n 3, 1) := by decide +kernel
theorem dL_isFixed_20 : decode cL_isFixed 20 = .ok (.iconst 1, 1) := by decide +kernel
theorem dL_isFixed_21 : decode cL_isFixed 21 = .ok (.ireturn, 1) := by decide +kernel
theorem dL_isFixed_22 : decode cL_isFixed 22 = .ok (.astore_n 3, 1) := by decide +kernel
theorem dL_isFixed_23 : decode cL_isFixed 23 = .ok (.iconst 2, 1) := by decide +kernel
theorem dL_isFixed_24 : decode cL_isFixed 24 = .ok (.ireturn, 1) := by decide +kernel
theorem dL_isFixed_25 : decode cL_isFixed 25 = .ok (.iconst 0, 1) := by decide +kernel
theorem dL_isFixed_26 : decode cL_isFixed 26 = .ok (.ireturn, 1) := by decide +kernel
theorem dL_lastShare_0 : decode cL_lastShare 0 = .ok (.aload_n 1, 1) := by decide +kernel
theorem dL_lastShare_1 : decode cL_lastShare 1 = .ok (.iconst 0, 1) := by decide +kernel
theorem dL_lastShare_2 : decode cL_lastShare 2 = .ok (.aload_n 0, 1) := by decide +kernel
theorem dL_lastShare_3 : decode cL_lastShare 3 = .ok (.invokevirtual 131, 3) := by decide +kernel
theorem dL_lastShare_6 : decode cL_lastShare 6 = .ok (.f2d, 1) := by decide +kernel
theorem dL_lastShare_7 : decode cL_lastShare 7 = .ok (.dastore, 1) := by decide +kernel
theorem dL_lastShare_8 : decode cL_lastShare 8 = .ok (.goto 6, 3) := by decide +kernel
theorem dL_lastShare_11 : decode cL_lastShare 11 = .ok (.astore_n 2, 1) := by decide +kernel
theorem dL_lastShare_12 : decode cL_lastShare 12 = .ok (.iconst 1, 1) := by decide +kernel
theorem dL_lastShare_13 : decode cL_lastShare 13 = .ok (.ireturn, 1) := by decide +kernel
theorem dL_lastShare_14 : decode cL_lastShare 14 = .ok (.iconst 0, 1) := by decide +kernel
theorem dL_lastShare_15 : decode cL_lastShare 15 = .ok (.ireturn, 1) := by decide +kernel
theorem dL_meanRank_0 : decode cL_meanRank 0 = .ok (.aload_n 1, 1) := by decide +kernel
theorem dL_meanRank_1 : decode cL_meanRank 1 = .ok (.iconst 0, 1) := by decide +kernel
theorem dL_meanRank_2 : decode cL_meanRank 2 = .ok (.aload_n 0, 1) := by decide +kernel
theorem dL_meanRank_3 : decode cL_meanRank 3 = .ok (.invokevirtual 135, 3) := by decide +kernel
theorem dL_meanRank_6 : decode cL_meanRank 6 = .ok (.dastore, 1) := by decide +kernel
theorem dL_meanRank_7 : decode cL_meanRank 7 = .ok (.goto 6, 3) := by decide +kernel
theorem dL_meanRank_10 : decode cL_meanRank 10 = .ok (.astore_n 2, 1) := by decide +kernel
theorem dL_meanRank_11 : decode cL_meanRank 11 = .ok (.iconst 1, 1) := by decide +kernel
theorem dL_meanRank_12 : decode cL_meanRank 12 = .ok (.ireturn, 1) := by decide +kernel
theorem dL_meanRank_13 : decode cL_meanRank 13 = .ok (.iconst 0, 1) := by decide +kernel
theorem dL_meanRank_14 : decode cL_meanRank 14 = .ok (.ireturn, 1) := by decide +kernel
