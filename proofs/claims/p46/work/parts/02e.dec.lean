theorem dL_condition_0 : decode cL_condition 0 = .ok (.aload_n 1, 1) := by decide +kernel
theorem dL_condition_1 : decode cL_condition 1 = .ok (.iconst 0, 1) := by decide +kernel
theorem dL_condition_2 : decode cL_condition 2 = .ok (.aload_n 0, 1) := by decide +kernel
theorem dL_condition_3 : decode cL_condition 3 = .ok (.invokevirtual 7, 3) := by decide +kernel
theorem dL_condition_6 : decode cL_condition 6 = .ok (.i2l, 1) := by decide +kernel
theorem dL_condition_7 : decode cL_condition 7 = .ok (.lastore, 1) := by decide +kernel
theorem dL_condition_8 : decode cL_condition 8 = .ok (.goto 6, 3) := by decide +kernel
theorem dL_condition_11 : decode cL_condition 11 = .ok (.astore_n 2, 1) := by decide +kernel
theorem dL_condition_12 : decode cL_condition 12 = .ok (.iconst 1, 1) := by decide +kernel
theorem dL_condition_13 : decode cL_condition 13 = .ok (.ireturn, 1) := by decide +kernel
theorem dL_condition_14 : decode cL_condition 14 = .ok (.iconst 0, 1) := by decide +kernel
theorem dL_condition_15 : decode cL_condition 15 = .ok (.ireturn, 1) := by decide +kernel
theorem dL_under_0 : decode cL_under 0 = .ok (.aload_n 3, 1) := by decide +kernel
theorem dL_under_1 : decode cL_under 1 = .ok (.iconst 0, 1) := by decide +kernel
theorem dL_under_2 : decode cL_under 2 = .ok (.aload_n 0, 1) := by decide +kernel
theorem dL_under_3 : decode cL_under 3 = .ok (.iload_n 1, 1) := by decide +kernel
theorem dL_under_4 : decode cL_under 4 = .ok (.iload_n 2, 1) := by decide +kernel
theorem dL_under_5 : decode cL_under 5 = .ok (.invokevirtual 15, 3) := by decide +kernel
theorem dL_under_8 : decode cL_under 8 = .ok (.i2l, 1) := by decide +kernel
theorem dL_under_9 : decode cL_under 9 = .ok (.lastore, 1) := by decide +kernel
theorem dL_under_10 : decode cL_under 10 = .ok (.goto 11, 3) := by decide +kernel
theorem dL_under_13 : decode cL_under 13 = .ok (.astore 4, 2) := by decide +kernel
theorem dL_under_15 : decode cL_under 15 = .ok (.iconst 1, 1) := by decide +kernel
theorem dL_under_16 : decode cL_under 16 = .ok (.ireturn, 1) := by decide +kernel
theorem dL_under_17 : decode cL_under 17 = .ok (.astore 4, 2) := by decide +kernel
theorem dL_under_19 : decode cL_under 19 = .ok (.iconst 2, 1) := by decide +kernel
theorem dL_under_20 : decode cL_under 20 = .ok (.ireturn, 1) := by decide +kernel
theorem dL_under_21 : decode cL_under 21 = .ok (.iconst 0, 1) := by decide +kernel
theorem dL_under_22 : decode cL_under 22 = .ok (.ireturn, 1) := by decide +kernel
theorem dL_isBelow_0 : decode cL_isBelow 0 = .ok (.aload_n 3, 1) := by decide +kernel
theorem dL_isBelow_1 : decode cL_isBelow 1 = .ok (.iconst 0, 1) := by decide +kernel
theorem dL_isBelow_2 : decode cL_isBelow 2 = .ok (.aload_n 0, 1) := by decide +kernel
theorem dL_isBelow_3 : decode cL_isBelow 3 = .ok (.iload_n 1, 1) := by decide +kernel
theorem dL_isBelow_4 : decode cL_isBelow 4 = .ok (.iload_n 2, 1) := by decide +kernel
theorem dL_isBelow_5 : decode cL_isBelow 5 = .ok (.invokevirtual 23, 3) := by decide +kernel
theorem dL_isBelow_8 : decode cL_isBelow 8 = .ok (.ifCond .eq 7, 3) := by decide +kernel
theorem dL_isBelow_11 : decode cL_isBelow 11 = .ok (.lconst 1, 1) := by decide +kernel
theorem dL_isBelow_12 : decode cL_isBelow 12 = .ok (.goto 4, 3) := by decide +kernel
theorem dL_isBelow_15 : decode cL_isBelow 15 = .ok (.lconst 0, 1) := by decide +kernel
theorem dL_isBelow_16 : decode cL_isBelow 16 = .ok (.lastore, 1) := by decide +kernel
theorem dL_isBelow_17 : decode cL_isBelow 17 = .ok (.goto 7, 3) := by decide +kernel
theorem dL_isBelow_20 : decode cL_isBelow 20 = .ok (.astore 4, 2) := by decide +kernel
theorem dL_isBelow_22 : decode cL_isBelow 22 = .ok (.iconst 1, 1) := by decide +kernel
theorem dL_isBelow_23 : decode cL_isBelow 23 = .ok (.ireturn, 1) := by decide +kernel
theorem dL_isBelow_24 : decode cL_isBelow 24 = .ok (.iconst 0, 1) := by decide +kernel
theorem dL_isBelow_25 : decode cL_isBelow 25 = .ok (.ireturn, 1) := by decide +kernel
theorem dL_fit_0 : decode cL_fit 0 = .ok (.aload_n 3, 1) := by decide +kernel
theorem dL_fit_1 : decode cL_fit 1 = .ok (.iconst 0, 1) := by decide +kernel
theorem dL_fit_2 : decode cL_fit 2 = .ok (.aload_n 0, 1) := by decide +kernel
theorem dL_fit_3 : decode cL_fit 3 = .ok (.iload_n 1, 1) := by decide +kernel
theorem dL_fit_4 : decode cL_fit 4 = .ok (.iload_n 2, 1) := by decide +kernel
theorem dL_fit_5 : decode cL_fit 5 = .ok (.invokevirtual 27, 3) := by decide +kernel
theorem dL_fit_8 : decode cL_fit 8 = .ok (.ifCond .eq 7, 3) := by decide +kernel
theorem dL_fit_11 : decode cL_fit 11 = .ok (.lconst 1, 1) := by decide +kernel
theorem dL_fit_12 : decode cL_fit 12 = .ok (.goto 4, 3) := by decide +kernel
theorem dL_fit_15 : decode cL_fit 15 = .ok (.lconst 0, 1) := by decide +kernel
theorem dL_fit_16 : decode cL_fit 16 = .ok (.lastore, 1) := by decide +kernel
theorem dL_fit_17 : decode cL_fit 17 = .ok (.goto 7, 3) := by decide +kernel
theorem dL_fit_20 : decode cL_fit 20 = .ok (.astore 4, 2) := by decide +kernel
theorem dL_fit_22 : decode cL_fit 22 = .ok (.iconst 1, 1) := by decide +kernel
theorem dL_fit_23 : decode cL_fit 23 = .ok (.ireturn, 1) := by decide +kernel
theorem dL_fit_24 : decode cL_fit 24 = .ok (.iconst 0, 1) := by decide +kernel
theorem dL_fit_25 : decode cL_fit 25 = .ok (.ireturn, 1) := by decide +kernel
theorem dL_isAntichain_0 : decode cL_isAntichain 0 = .ok (.aload_n 2, 1) := by decide +kernel
theorem dL_isAntichain_1 : decode cL_isAntichain 1 = .ok (.iconst 0, 1) := by decide +kernel
theorem dL_isAntichain_2 : decode cL_isAntichain 2 = .ok (.aload_n 0, 1) := by decide +kernel
theorem dL_isAntichain_3 : decode cL_isAntichain 3 = .ok (.iload_n 1, 1) := by decide +kernel
theorem dL_isAntichain_4 : decode cL_isAntichain 4 = .ok (.invokevirtual 30, 3) := by decide +kernel
theorem dL_isAntichain_7 : decode cL_isAntichain 7 = .ok (.ifCond .eq 7, 3) := by decide +kernel
theorem dL_isAntichain_10 : decode cL_isAntichain 10 = .ok (.lconst 1, 1) := by decide +kernel
theorem dL_isAntichain_11 : decode cL_isAntichain 11 = .ok (.goto 4, 3) := by decide +kernel
theorem dL_isAntichain_14 : decode cL_isAntichain 14 = .ok (.lconst 0, 1) := by decide +kernel
theorem dL_isAntichain_15 : decode cL_isAntichain 15 = .ok (.lastore, 1) := by decide +kernel
theorem dL_isAntichain_16 : decode cL_isAntichain 16 = .ok (.goto 6, 3) := by decide +kernel
theorem dL_isAntichain_19 : decode cL_isAntichain 19 = .ok (.astore_n 3, 1) := by decide +kernel
theorem dL_isAntichain_20 : decode cL_isAntichain 20 = .ok (.iconst 1, 1) := by decide +kernel
theorem dL_isAntichain_21 : decode cL_isAntichain 21 = .ok (.ireturn, 1) := by decide +kernel
theorem dL_isAntichain_22 : decode cL_isAntichain 22 = .ok (.iconst 0, 1) := by decide +kernel
theorem dL_isAntichain_23 : decode cL_isAntichain 23 = .ok (.ireturn, 1) := by decide +kernel
theorem dL_isDense_0 : decode cL_isDense 0 = .ok (.aload_n 2, 1) := by decide +kernel
theorem dL_isDense_1 : decode cL_isDense 1 = .ok (.iconst 0, 1) := by decide +kernel
theorem dL_isDense_2 : decode cL_isDense 2 = .ok (.aload_n 0, 1) := by decide +kernel
theorem dL_isDense_3 : decode cL_isDense 3 = .ok (.iload_n 1, 1) := by decide +kernel
theorem dL_isDense_4 : decode cL_isDense 4 = .ok (.invokevirtual 36, 3) := by decide +kernel
theorem dL_isDense_7 : decode cL_isDense 7 = .ok (.ifCond .eq 7, 3) := by decide +kernel
theorem dL_isDense_10 : decode cL_isDense 10 = .ok (.lconst 1, 1) := by decide +kernel
theorem dL_isDense_11 : decode cL_isDense 11 = .ok (.goto 4, 3) := by decide +kernel
theorem dL_isDense_14 : decode cL_isDense 14 = .ok (.lconst 0, 1) := by decide +kernel
theorem dL_isDense_15 : decode cL_isDense 15 = .ok (.lastore, 1) := by decide +kernel
theorem dL_isDense_16 : decode cL_isDense 16 = .ok (.goto 6, 3) := by decide +kernel
theorem dL_isDense_19 : decode cL_isDense 19 = .ok (.astore_n 3, 1) := by decide +kernel
theorem dL_isDense_20 : decode cL_isDense 20 = .ok (.iconst 1, 1) := by decide +kernel
theorem dL_isDense_21 : decode cL_isDense 21 = .ok (.ireturn, 1) := by decide +kernel
theorem dL_isDense_22 : decode cL_isDense 22 = .ok (.iconst 0, 1) := by decide +kernel
theorem dL_isDense_23 : decode cL_isDense 23 = .ok (.ireturn, 1) := by decide +kernel
theorem dL_isFilter_0 : decode cL_isFilter 0 = .ok (.aload_n 2, 1) := by decide +kernel
theorem dL_isFilter_1 : decode cL_isFilter 1 = .ok (.iconst 0, 1) := by decide +kernel
theorem dL_isFilter_2 : decode cL_isFilter 2 = .ok (.aload_n 0, 1) := by decide +kernel
theorem dL_isFilter_3 : decode cL_isFilter 3 = .ok (.iload_n 1, 1) := by decide +kernel
theorem dL_isFilter_4 : decode cL_isFilter 4 = .ok (.invokevirtual 39, 3) := by decide +kernel
theorem dL_isFilter_7 : decode cL_isFilter 7 = .ok (.ifCond .eq 7, 3) := by decide +kernel
theorem dL_isFilter_10 : decode cL_isFilter 10 = .ok (.lconst 1, 1) := by decide +kernel
theorem dL_isFilter_11 : decode cL_isFilter 11 = .ok (.goto 4, 3) := by decide +kernel
theorem dL_isFilter_14 : decode cL_isFilter 14 = .ok (.lconst 0, 1) := by decide +kernel
theorem dL_isFilter_15 : decode cL_isFilter 15 = .ok (.lastore, 1) := by decide +kernel
theorem dL_isFilter_16 : decode cL_isFilter 16 = .ok (.goto 6, 3) := by decide +kernel
theorem dL_isFilter_19 : decode cL_isFilter 19 = .ok (.astore_n 3, 1) := by decide +kernel
theorem dL_isFilter_20 : decode cL_isFilter 20 = .ok (.iconst 1, 1) := by decide +kernel
theorem dL_isFilter_21 : decode cL_isFilter 21 = .ok (.ireturn, 1) := by decide +kernel
theorem dL_isFilter_22 : decode cL_isFilter 22 = .ok (.iconst 0, 1) := by decide +kernel
theorem dL_isFilter_23 : decode cL_isFilter 23 = .ok (.ireturn, 1) := by decide +kernel
theorem dL_cut_0 : decode cL_cut 0 = .ok (.aload_n 2, 1) := by decide +kernel
theorem dL_cut_1 : decode cL_cut 1 = .ok (.iconst 0, 1) := by decide +kernel
theorem dL_cut_2 : decode cL_cut 2 = .ok (.aload_n 0, 1) := by decide +kernel
theorem dL_cut_3 : decode cL_cut 3 = .ok (.iload_n 1, 1) := by decide +kernel
theorem dL_cut_4 : decode cL_cut 4 = .ok (.invokevirtual 42, 3) := by decide +kernel
theorem dL_cut_7 : decode cL_cut 7 = .ok (.i2l, 1) := by decide +kernel
theorem dL_cut_8 : decode cL_cut 8 = .ok (.lastore, 1) := by decide +kernel
theorem dL_cut_9 : decode cL_cut 9 = .ok (.goto 6, 3) := by decide +kernel
theorem dL_cut_12 : decode cL_cut 12 = .ok (.astore_n 3, 1) := by decide +kernel
theorem dL_cut_13 : decode cL_cut 13 = .ok (.iconst 1, 1) := by decide +kernel
theorem dL_cut_14 : decode cL_cut 14 = .ok (.ireturn, 1) := by decide +kernel
theorem dL_cut_15 : decode cL_cut 15 = .ok (.iconst 0, 1) := by decide +kernel
theorem dL_cut_16 : decode cL_cut 16 = .ok (.ireturn, 1) := by decide +kernel
theorem dL_closure_0 : decode cL_closure 0 = .ok (.aload_n 2, 1) := by decide +kernel
theorem dL_closure_1 : decode cL_closure 1 = .ok (.iconst 0, 1) := by decide +kernel
theorem dL_closure_2 : decode cL_closure 2 = .ok (.aload_n 0, 1) := by decide +kernel
theorem dL_closure_3 : decode cL_closure 3 = .ok (.iload_n 1, 1) := by decide +kernel
theorem dL_closure_4 : decode cL_closure 4 = .ok (.invokevirtual 46, 3) := by decide +kernel
theorem dL_closure_7 : decode cL_closure 7 = .ok (.i2l, 1) := by decide +kernel
theorem dL_closure_8 : decode cL_closure 8 = .ok (.lastore, 1) := by decide +kernel
theorem dL_closure_9 : decode cL_closure 9 = .ok (.goto 6, 3) := by decide +kernel
theorem dL_closure_12 : decode cL_closure 12 = .ok (.astore_n 3, 1) := by decide +kernel
theorem dL_closure_13 : decode cL_closure 13 = .ok (.iconst 1, 1) := by decide +kernel
theorem dL_closure_14 : decode cL_closure 14 = .ok (.ireturn, 1) := by decide +kernel
theorem dL_closure_15 : decode cL_closure 15 = .ok (.iconst 0, 1) := by decide +kernel
theorem dL_closure_16 : decode cL_closure 16 = .ok (.ireturn, 1) := by decide +kernel
theorem dL_filterOf_0 : decode cL_filterOf 0 = .ok (.aload_n 2, 1) := by decide +kernel
theorem dL_filterOf_1 : decode cL_filterOf 1 = .ok (.iconst 0, 1) := by decide +kernel
theorem dL_filterOf_2 : decode cL_filterOf 2 = .ok (.aload_n 0, 1) := by decide +kernel
theorem dL_filterOf_3 : decode cL_filterOf 3 = .ok (.iload_n 1, 1) := by decide +kernel
theorem dL_filterOf_4 : decode cL_filterOf 4 = .ok (.invokevirtual 49, 3) := by decide +kernel
theorem dL_filterOf_7 : decode cL_filterOf 7 = .ok (.i2l, 1) := by decide +kernel
theorem dL_filterOf_8 : decode cL_filterOf 8 = .ok (.lastore, 1) := by decide +kernel
theorem dL_filterOf_9 : decode cL_filterOf 9 = .ok (.goto 6, 3) := by decide +kernel
theorem dL_filterOf_12 : decode cL_filterOf 12 = .ok (.astore_n 3, 1) := by decide +kernel
theorem dL_filterOf_13 : decode cL_filterOf 13 = .ok (.iconst 1, 1) := by decide +kernel
theorem dL_filterOf_14 : decode cL_filterOf 14 = .ok (.ireturn, 1) := by decide +kernel
theorem dL_filterOf_15 : decode cL_filterOf 15 = .ok (.iconst 0, 1) := by decide +kernel
theorem dL_filterOf_16 : decode cL_filterOf 16 = .ok (.ireturn, 1) := by decide +kernel
theorem dL_name_0 : decode cL_name 0 = .ok (.aload_n 1, 1) := by decide +kernel
theorem dL_name_1 : decode cL_name 1 = .ok (.iconst 0, 1) := by decide +kernel
theorem dL_name_2 : decode cL_name 2 = .ok (.aload_n 0, 1) := by decide +kernel
theorem dL_name_3 : decode cL_name 3 = .ok (.invokevirtual 52, 3) := by decide +kernel
theorem dL_name_6 : decode cL_name 6 = .ok (.i2l, 1) := by decide +kernel
theorem dL_name_7 : decode cL_name 7 = .ok (.lastore, 1) := by decide +kernel
theorem dL_name_8 : decode cL_name 8 = .ok (.goto 6, 3) := by decide +kernel
theorem dL_name_11 : decode cL_name 11 = .ok (.astore_n 2, 1) := by decide +kernel
theorem dL_name_12 : decode cL_name 12 = .ok (.iconst 1, 1) := by decide +kernel
theorem dL_name_13 : decode cL_name 13 = .ok (.ireturn, 1) := by decide +kernel
theorem dL_name_14 : decode cL_name 14 = .ok (.iconst 0, 1) := by decide +kernel
theorem dL_name_15 : decode cL_name 15 = .ok (.ireturn, 1) := by decide +kernel
theorem dL_pair_0 : decode cL_pair 0 = .ok (.aload 4, 2) := by decide +kernel
theorem dL_pair_2 : decode cL_pair 2 = .ok (.iconst 0, 1) := by decide +kernel
theorem dL_pair_3 : decode cL_pair 3 = .ok (.aload_n 0, 1) := by decide +kernel
theorem dL_pair_4 : decode cL_pair 4 = .ok (.iload_n 1, 1) := by decide +kernel
theorem dL_pair_5 : decode cL_pair 5 = .ok (.iload_n 2, 1) := by decide +kernel
theorem dL_pair_6 : decode cL_pair 6 = .ok (.iload_n 3, 1) := by decide +kernel
theorem dL_pair_7 : decode cL_pair 7 = .ok (.invokevirtual 55, 3) := by decide +kernel
theorem dL_pair_10 : decode cL_pair 10 = .ok (.i2l, 1) := by decide +kernel
theorem dL_pair_11 : decode cL_pair 11 = .ok (.lastore, 1) := by decide +kernel
theorem dL_pair_12 : decode cL_pair 12 = .ok (.goto 19, 3) := by decide +kernel
theorem dL_pair_15 : decode cL_pair 15 = .ok (.astore 5, 2) := by decide +kernel
theorem dL_pair_17 : decode cL_pair 17 = .ok (.iconst 1, 1) := by decide +kernel
theorem dL_pair_18 : decode cL_pair 18 = .ok (.ireturn, 1) := by decide +kernel
theorem dL_pair_19 : decode cL_pair 19 = .ok (.astore 5, 2) := by decide +kernel
theorem dL_pair_21 : decode cL_pair 21 = .ok (.iconst 2, 1) := by decide +kernel
theorem dL_pair_22 : decode cL_pair 22 = .ok (.ireturn, 1) := by decide +kernel
theorem dL_pair_23 : decode cL_pair 23 = .ok (.astore 5, 2) := by decide +kernel
theorem dL_pair_25 : decode cL_pair 25 = .ok (.iconst 3, 1) := by decide +kernel
theorem dL_pair_26 : decode cL_pair 26 = .ok (.ireturn, 1) := by decide +kernel
theorem dL_pair_27 : decode cL_pair 27 = .ok (.astore 5, 2) := by decide +kernel
theorem dL_pair_29 : decode cL_pair 29 = .ok (.iconst 4, 1) := by decide +kernel
theorem dL_pair_30 : decode cL_pair 30 = .ok (.ireturn, 1) := by decide +kernel
theorem dL_pair_31 : decode cL_pair 31 = .ok (.iconst 0, 1) := by decide +kernel
theorem dL_pair_32 : decode cL_pair 32 = .ok (.ireturn, 1) := by decide +kernel
theorem dL_unpair_0 : decode cL_unpair 0 = .ok (.aload_n 2, 1) := by decide +kernel
theorem dL_unpair_1 : decode cL_unpair 1 = .ok (.iconst 0, 1) := by decide +kernel
theorem dL_unpair_2 : decode cL_unpair 2 = .ok (.aload_n 0, 1) := by decide +kernel
theorem dL_unpair_3 : decode cL_unpair 3 = .ok (.iload_n 1, 1) := by decide +kernel
theorem dL_unpair_4 : decode cL_unpair 4 = .ok (.invokevirtual 59, 3) := by decide +kernel
theorem dL_unpair_7 : decode cL_unpair 7 = .ok (.i2l, 1) := by decide +kernel
theorem dL_unpair_8 : decode cL_unpair 8 = .ok (.lastore, 1) := by decide +kernel
theorem dL_unpair_9 : decode cL_unpair 9 = .ok (.goto 9, 3) := by decide +kernel
theorem dL_unpair_12 : decode cL_unpair 12 = .ok (.astore_n 3, 1) := by decide +kernel
theorem dL_unpair_13 : decode cL_unpair 13 = .ok (.iconst 1, 1) := by decide +kernel
theorem dL_unpair_14 : decode cL_unpair 14 = .ok (.ireturn, 1) := by decide +kernel
theorem dL_unpair_15 : decode cL_unpair 15 = .ok (.astore_n 3, 1) := by decide +kernel
theorem dL_unpair_16 : decode cL_unpair 16 = .ok (.iconst 2, 1) := by decide +kernel
theorem dL_unpair_17 : decode cL_unpair 17 = .ok (.ireturn, 1) := by decide +kernel
theorem dL_unpair_18 : decode cL_unpair 18 = .ok (.iconst 0, 1) := by decide +kernel
theorem dL_unpair_19 : decode cL_unpair 19 = .ok (.ireturn, 1) := by decide +kernel
theorem dL_rank_0 : decode cL_rank 0 = .ok (.aload_n 2, 1) := by decide +kernel
theorem dL_rank_1 : decode cL_rank 1 = .ok (.iconst 0, 1) := by decide +kernel
theorem dL_rank_2 : decode cL_rank 2 = .ok (.aload_n 0, 1) := by decide +kernel
theorem dL_rank_3 : decode cL_rank 3 = .ok (.iload_n 1, 1) := by decide +kernel
theorem dL_rank_4 : decode cL_rank 4 = .ok (.invokevirtual 62, 3) := by decide +kernel
theorem dL_rank_7 : decode cL_rank 7 = .ok (.i2l, 1) := by decide +kernel
theorem dL_rank_8 : decode cL_rank 8 = .ok (.lastore, 1) := by decide +kernel
theorem dL_rank_9 : decode cL_rank 9 = .ok (.goto 6, 3) := by decide +kernel
theorem dL_rank_12 : decode cL_rank 12 = .ok (.astore_n 3, 1) := by decide +kernel
theorem dL_rank_13 : decode cL_rank 13 = .ok (.iconst 1, 1) := by decide +kernel
theorem dL_rank_14 : decode cL_rank 14 = .ok (.ireturn, 1) := by decide +kernel
theorem dL_rank_15 : decode cL_rank 15 = .ok (.iconst 0, 1) := by decide +kernel
theorem dL_rank_16 : decode cL_rank 16 = .ok (.ireturn, 1) := by decide +kernel
theorem dL_standard_0 : decode cL_standard 0 = .ok (.aload_n 2, 1) := by decide +kernel
theorem dL_standard_1 : decode cL_standard 1 = .ok (.iconst 0, 1) := by decide +kernel
theorem dL_standard_2 : decode cL_standard 2 = .ok (.aload_n 0, 1) := by decide +kernel
theorem dL_standard_3 : decode cL_standard 3 = .ok (.iload_n 1, 1) := by decide +kernel
theorem dL_standard_4 : decode cL_standard 4 = .ok (.invokevirtual 65, 3) := by decide +kernel
theorem dL_standard_7 : decode cL_standard 7 = .ok (.i2l, 1) := by decide +kernel
theorem dL_standard_8 : decode cL_standard 8 = .ok (.lastore, 1) := by decide +kernel
theorem dL_standard_9 : decode cL_standard 9 = .ok (.goto 12, 3) := by decide +kernel
theorem dL_standard_12 : decode cL_standard 12 = .ok (.astore_n 3, 1) := by decide +kernel
theorem dL_standard_13 : decode cL_standard 13 = .ok (.iconst 1, 1) := by decide +kernel
theorem dL_standard_14 : decode cL_standard 14 = .ok (.ireturn, 1) := by decide +kernel
theorem dL_standard_15 : decode cL_standard 15 = .ok (.astore_n 3, 1) := by decide +kernel
theorem dL_standard_16 : decode cL_standard 16 = .ok (.iconst 2, 1) := by decide +kernel
theorem dL_standard_17 : decode cL_standard 17 = .ok (.ireturn, 1) := by decide +kernel
theorem dL_standard_18 : decode cL_standard 18 = .ok (.astore_n 3, 1) := by decide +kernel
theorem dL_standard_19 : decode cL_standard 19 = .ok (.iconst 3, 1) := by decide +kernel
theorem dL_standard_20 : decode cL_standard 20 = .ok (.ireturn, 1) := by decide +kernel
theorem dL_standard_21 : decode cL_standard 21 = .ok (.iconst 0, 1) := by decide +kernel
theorem dL_standard_22 : decode cL_standard 22 = .ok (.ireturn, 1) := by decide +kernel
theorem dL_becomes_0 : decode cL_becomes 0 = .ok (.aload_n 3, 1) := by decide +kernel
theorem dL_becomes_1 : decode cL_becomes 1 = .ok (.iconst 0, 1) := by decide +kernel
theorem dL_becomes_2 : decode cL_becomes 2 = .ok (.aload_n 0, 1) := by decide +kernel
theorem dL_becomes_3 : decode cL_becomes 3 = .ok (.iload_n 1, 1) := by decide +kernel
theorem dL_becomes_4 : decode cL_becomes 4 = .ok (.iload_n 2, 1) := by decide +kernel
theorem dL_becomes_5 : decode cL_becomes 5 = .ok (.invokevirtual 68, 3) := by decide +kernel
theorem dL_becomes_8 : decode cL_becomes 8 = .ok (.i2l, 1) := by decide +kernel
theorem dL_becomes_9 : decode cL_becomes 9 = .ok (.lastore, 1) := by decide +kernel
theorem dL_becomes_10 : decode cL_becomes 10 = .ok (.goto 11, 3) := by decide +kernel
theorem dL_becomes_13 : decode cL_becomes 13 = .ok (.astore 4, 2) := by decide +kernel
theorem dL_becomes_15 : decode cL_becomes 15 = .ok (.iconst 1, 1) := by decide +kernel
theorem dL_becomes_16 : decode cL_becomes 16 = .ok (.ireturn, 1) := by decide +kernel
theorem dL_becomes_17 : decode cL_becomes 17 = .ok (.astore 4, 2) := by decide +kernel
theorem dL_becomes_19 : decode cL_becomes 19 = .ok (.iconst 2, 1) := by decide +kernel
theorem dL_becomes_20 : decode cL_becomes 20 = .ok (.ireturn, 1) := by decide +kernel
theorem dL_becomes_21 : decode cL_becomes 21 = .ok (.iconst 0, 1) := by decide +kernel
theorem dL_becomes_22 : decode cL_becomes 22 = .ok (.ireturn, 1) := by decide +kernel
theorem dL_valueIn_0 : decode cL_valueIn 0 = .ok (.aload_n 3, 1) := by decide +kernel
theorem dL_valueIn_1 : decode cL_valueIn 1 = .ok (.iconst 0, 1) := by decide +kernel
theorem dL_valueIn_2 : decode cL_valueIn 2 = .ok (.aload_n 0, 1) := by decide +kernel
theorem dL_valueIn_3 : decode cL_valueIn 3 = .ok (.iload_n 1, 1) := by decide +kernel
theorem dL_valueIn_4 : decode cL_valueIn 4 = .ok (.iload_n 2, 1) := by decide +kernel
theorem dL_valueIn_5 : decode cL_valueIn 5 = .ok (.invokevirtual 71, 3) := by decide +kernel
theorem dL_valueIn_8 : decode cL_valueIn 8 = .ok (.i2l, 1) := by decide +kernel
theorem dL_valueIn_9 : decode cL_valueIn 9 = .ok (.lastore, 1) := by decide +kernel
theorem dL_valueIn_10 : decode cL_valueIn 10 = .ok (.goto 7, 3) := by decide +kernel
theorem dL_valueIn_13 : decode cL_valueIn 13 = .ok (.astore 4, 2) := by decide +kernel
theorem dL_valueIn_15 : decode cL_valueIn 15 = .ok (.iconst 1, 1) := by decide +kernel
theorem dL_valueIn_16 : decode cL_valueIn 16 = .ok (.ireturn, 1) := by decide +kernel
theorem dL_valueIn_17 : decode cL_valueIn 17 = .ok (.iconst 0, 1) := by decide +kernel
theorem dL_valueIn_18 : decode cL_valueIn 18 = .ok (.ireturn, 1) := by decide +kernel
theorem dL_valueLike_0 : decode cL_valueLike 0 = .ok (.aload_n 3, 1) := by decide +kernel
theorem dL_valueLike_1 : decode cL_valueLike 1 = .ok (.iconst 0, 1) := by decide +kernel
theorem dL_valueLike_2 : decode cL_valueLike 2 = .ok (.aload_n 0, 1) := by decide +kernel
theorem dL_valueLike_3 : decode cL_valueLike 3 = .ok (.iload_n 1, 1) := by decide +kernel
theorem dL_valueLike_4 : decode cL_valueLike 4 = .ok (.iload_n 2, 1) := by decide +kernel
theorem dL_valueLike_5 : decode cL_valueLike 5 = .ok (.invokevirtual 74, 3) := by decide +kernel
theorem dL_valueLike_8 : decode cL_valueLike 8 = .ok (.i2l, 1) := by decide +kernel
theorem dL_valueLike_9 : decode cL_valueLike 9 = .ok (.lastore, 1) := by decide +kernel
theorem dL_valueLike_10 : decode cL_valueLike 10 = .ok (.goto 7, 3) := by decide +kernel
theorem dL_valueLike_13 : decode cL_valueLike 13 = .ok (.astore 4, 2) := by decide +kernel
theorem dL_valueLike_15 : decode cL_valueLike 15 = .ok (.iconst 1, 1) := by decide +kernel
theorem dL_valueLike_16 : decode cL_valueLike 16 = .ok (.ireturn, 1) := by decide +kernel
theorem dL_valueLike_17 : decode cL_valueLike 17 = .ok (.iconst 0, 1) := by decide +kernel
theorem dL_valueLike_18 : decode cL_valueLike 18 = .ok (.ireturn, 1) := by decide +kernel
theorem dL_forcesIn_0 : decode cL_forcesIn 0 = .ok (.aload 4, 2) := by decide +kernel
theorem dL_forcesIn_2 : decode cL_forcesIn 2 = .ok (.iconst 0, 1) := by decide +kernel
theorem dL_forcesIn_3 : decode cL_forcesIn 3 = .ok (.aload_n 0, 1) := by decide +kernel
theorem dL_forcesIn_4 : decode cL_forcesIn 4 = .ok (.iload_n 1, 1) := by decide +kernel
theorem dL_forcesIn_5 : decode cL_forcesIn 5 = .ok (.iload_n 2, 1) := by decide +kernel
theorem dL_forcesIn_6 : decode cL_forcesIn 6 = .ok (.iload_n 3, 1) := by decide +kernel
theorem dL_forcesIn_7 : decode cL_forcesIn 7 = .ok (.invokevirtual 77, 3) := by decide +kernel
theorem dL_forcesIn_10 : decode cL_forcesIn 10 = .ok (.ifCond .eq 7, 3) := by decide +kernel
theorem dL_forcesIn_13 : decode cL_forcesIn 13 = .ok (.lconst 1, 1) := by decide +kernel
theorem dL_forcesIn_14 : decode cL_forcesIn 14 = .ok (.goto 4, 3) := by decide +kernel
theorem dL_forcesIn_17 : decode cL_forcesIn 17 = .ok (.lconst 0, 1) := by decide +kernel
theorem dL_forcesIn_18 : decode cL_forcesIn 18 = .ok (.lastore, 1) := by decide +kernel
theorem dL_forcesIn_19 : decode cL_forcesIn 19 = .ok (.goto 7, 3) := by decide +kernel
theorem dL_forcesIn_22 : decode cL_forcesIn 22 = .ok (.astore 5, 2) := by decide +kernel
theorem dL_forcesIn_24 : decode cL_forcesIn 24 = .ok (.iconst 1, 1) := by decide +kernel
theorem dL_forcesIn_25 : decode cL_forcesIn 25 = .ok (.ireturn, 1) := by decide +kernel
theorem dL_forcesIn_26 : decode cL_forcesIn 26 = .ok (.iconst 0, 1) := by decide +kernel
theorem dL_forcesIn_27 : decode cL_forcesIn 27 = .ok (.ireturn, 1) := by decide +kernel
theorem dL_forcesLike_0 : decode cL_forcesLike 0 = .ok (.aload 4, 2) := by decide +kernel
theorem dL_forcesLike_2 : decode cL_forcesLike 2 = .ok (.iconst 0, 1) := by decide +kernel
theorem dL_forcesLike_3 : decode cL_forcesLike 3 = .ok (.aload_n 0, 1) := by decide +kernel
theorem dL_forcesLike_4 : decode cL_forcesLike 4 = .ok (.iload_n 1, 1) := by decide +kernel
theorem dL_forcesLike_5 : decode cL_forcesLike 5 = .ok (.iload_n 2, 1) := by decide +kernel
theorem dL_forcesLike_6 : decode cL_forcesLike 6 = .ok (.iload_n 3, 1) := by decide +kernel
theorem dL_forcesLike_7 : decode cL_forcesLike 7 = .ok (.invokevirtual 81, 3) := by decide +kernel
theorem dL_forcesLike_10 : decode cL_forcesLike 10 = .ok (.ifCond .eq 7, 3) := by decide +kernel
theorem dL_forcesLike_13 : decode cL_forcesLike 13 = .ok (.lconst 1, 1) := by decide +kernel
theorem dL_forcesLike_14 : decode cL_forcesLike 14 = .ok (.goto 4, 3) := by decide +kernel
theorem dL_forcesLike_17 : decode cL_forcesLike 17 = .ok (.lconst 0, 1) := by decide +kernel
theorem dL_forcesLike_18 : decode cL_forcesLike 18 = .ok (.lastore, 1) := by decide +kernel
theorem dL_forcesLike_19 : decode cL_forcesLike 19 = .ok (.goto 7, 3) := by decide +kernel
theorem dL_forcesLike_22 : decode cL_forcesLike 22 = .ok (.astore 5, 2) := by decide +kernel
theorem dL_forcesLike_24 : decode cL_forcesLike 24 = .ok (.iconst 1, 1) := by decide +kernel
theorem dL_forcesLike_25 : decode cL_forcesLike 25 = .ok (.ireturn, 1) := by decide +kernel
theorem dL_forcesLike_26 : decode cL_forcesLike 26 = .ok (.iconst 0, 1) := by decide +kernel
theorem dL_forcesLike_27 : decode cL_forcesLike 27 = .ok (.ireturn, 1) := by decide +kernel
theorem dL_mix_0 : decode cL_mix 0 = .ok (.aload 5, 2) := by decide +kernel
theorem dL_mix_2 : decode cL_mix 2 = .ok (.iconst 0, 1) := by decide +kernel
theorem dL_mix_3 : decode cL_mix 3 = .ok (.aload_n 0, 1) := by decide +kernel
theorem dL_mix_4 : decode cL_mix 4 = .ok (.iload_n 1, 1) := by decide +kernel
theorem dL_mix_5 : decode cL_mix 5 = .ok (.iload_n 2, 1) := by decide +kernel
theorem dL_mix_6 : decode cL_mix 6 = .ok (.iload_n 3, 1) := by decide +kernel
theorem dL_mix_7 : decode cL_mix 7 = .ok (.iload 4, 2) := by decide +kernel
theorem dL_mix_9 : decode cL_mix 9 = .ok (.invokevirtual 84, 3) := by decide +kernel
theorem dL_mix_12 : decode cL_mix 12 = .ok (.i2l, 1) := by decide +kernel
theorem dL_mix_13 : decode cL_mix 13 = .ok (.lastore, 1) := by decide +kernel
theorem dL_mix_14 : decode cL_mix 14 = .ok (.goto 15, 3) := by decide +kernel
theorem dL_mix_17 : decode cL_mix 17 = .ok (.astore 6, 2) := by decide +kernel
theorem dL_mix_19 : decode cL_mix 19 = .ok (.iconst 1, 1) := by decide +kernel
theorem dL_mix_20 : decode cL_mix 20 = .ok (.ireturn, 1) := by decide +kernel
theorem dL_mix_21 : decode cL_mix 21 = .ok (.astore 6, 2) := by decide +kernel
theorem dL_mix_23 : decode cL_mix 23 = .ok (.iconst 2, 1) := by decide +kernel
theorem dL_mix_24 : decode cL_mix 24 = .ok (.ireturn, 1) := by decide +kernel
theorem dL_mix_25 : decode cL_mix 25 = .ok (.astore 6, 2) := by decide +kernel
theorem dL_mix_27 : decode cL_mix 27 = .ok (.iconst 3, 1) := by decide +kernel
theorem dL_mix_28 : decode cL_mix 28 = .ok (.ireturn, 1) := by decide +kernel
theorem dL_mix_29 : decode cL_mix 29 = .ok (.iconst 0, 1) := by decide +kernel
theorem dL_mix_30 : decode cL_mix 30 = .ok (.ireturn, 1) := by decide +kernel
theorem dL_atom_0 : decode cL_atom 0 = .ok (.aload 4, 2) := by decide +kernel
theorem dL_atom_2 : decode cL_atom 2 = .ok (.iconst 0, 1) := by decide +kernel
theorem dL_atom_3 : decode cL_atom 3 = .ok (.aload_n 0, 1) := by decide +kernel
theorem dL_atom_4 : decode cL_atom 4 = .ok (.iload_n 1, 1) := by decide +kernel
theorem dL_atom_5 : decode cL_atom 5 = .ok (.iload_n 2, 1) := by decide +kernel
theorem dL_atom_6 : decode cL_atom 6 = .ok (.iload_n 3, 1) := by decide +kernel
theorem dL_atom_7 : decode cL_atom 7 = .ok (.invokevirtual 88, 3) := by decide +kernel
theorem dL_atom_10 : decode cL_atom 10 = .ok (.i2l, 1) := by decide +kernel
theorem dL_atom_11 : decode cL_atom 11 = .ok (.lastore, 1) := by decide +kernel
theorem dL_atom_12 : decode cL_atom 12 = .ok (.goto 11, 3) := by decide +kernel
theorem dL_atom_15 : decode cL_atom 15 = .ok (.astore 5, 2) := by decide +kernel
theorem dL_atom_17 : decode cL_atom 17 = .ok (.iconst 1, 1) := by decide +kernel
theorem dL_atom_18 : decode cL_atom 18 = .ok (.ireturn, 1) := by decide +kernel
theorem dL_atom_19 : decode cL_atom 19 = .ok (.astore 5, 2) := by decide +kernel
theorem dL_atom_21 : decode cL_atom 21 = .ok (.iconst 2, 1) := by decide +kernel
theorem dL_atom_22 : decode cL_atom 22 = .ok (.ireturn, 1) := by decide +kernel
theorem dL_atom_23 : decode cL_atom 23 = .ok (.iconst 0, 1) := by decide +kernel
theorem dL_atom_24 : decode cL_atom 24 = .ok (.ireturn, 1) := by decide +kernel
theorem dL_both_0 : decode cL_both 0 = .ok (.aload 4, 2) := by decide +kernel
theorem dL_both_2 : decode cL_both 2 = .ok (.iconst 0, 1) := by decide +kernel
theorem dL_both_3 : decode cL_both 3 = .ok (.aload_n 0, 1) := by decide +kernel
theorem dL_both_4 : decode cL_both 4 = .ok (.iload_n 1, 1) := by decide +kernel
theorem dL_both_5 : decode cL_both 5 = .ok (.iload_n 2, 1) := by decide +kernel
theorem dL_both_6 : decode cL_both 6 = .ok (.iload_n 3, 1) := by decide +kernel
theorem dL_both_7 : decode cL_both 7 = .ok (.invokevirtual 92, 3) := by decide +kernel
theorem dL_both_10 : decode cL_both 10 = .ok (.i2l, 1) := by decide +kernel
theorem dL_both_11 : decode cL_both 11 = .ok (.lastore, 1) := by decide +kernel
theorem dL_both_12 : decode cL_both 12 = .ok (.goto 19, 3) := by decide +kernel
theorem dL_both_15 : decode cL_both 15 = .ok (.astore 5, 2) := by decide +kernel
theorem dL_both_17 : decode cL_both 17 = .ok (.iconst 1, 1) := by decide +kernel
theorem dL_both_18 : decode cL_both 18 = .ok (.ireturn, 1) := by decide +kernel
theorem dL_both_19 : decode cL_both 19 = .ok (.astore 5, 2) := by decide +kernel
theorem dL_both_21 : decode cL_both 21 = .ok (.iconst 2, 1) := by decide +kernel
theorem dL_both_22 : decode cL_both 22 = .ok (.ireturn, 1) := by decide +kernel
theorem dL_both_23 : decode cL_both 23 = .ok (.astore 5, 2) := by decide +kernel
theorem dL_both_25 : decode cL_both 25 = .ok (.iconst 3, 1) := by decide +kernel
theorem dL_both_26 : decode cL_both 26 = .ok (.ireturn, 1) := by decide +kernel
theorem dL_both_27 : decode cL_both 27 = .ok (.astore 5, 2) := by decide +kernel
theorem dL_both_29 : decode cL_both 29 = .ok (.iconst 4, 1) := by decide +kernel
theorem dL_both_30 : decode cL_both 30 = .ok (.ireturn, 1) := by decide +kernel
theorem dL_both_31 : decode cL_both 31 = .ok (.iconst 0, 1) := by decide +kernel
theorem dL_both_32 : decode cL_both 32 = .ok (.ireturn, 1) := by decide +kernel
theorem dL_not_0 : decode cL_not 0 = .ok (.aload_n 2, 1) := by decide +kernel
theorem dL_not_1 : decode cL_not 1 = .ok (.iconst 0, 1) := by decide +kernel
theorem dL_not_2 : decode cL_not 2 = .ok (.aload_n 0, 1) := by decide +kernel
theorem dL_not_3 : decode cL_not 3 = .ok (.iload_n 1, 1) := by decide +kernel
theorem dL_not_4 : decode cL_not 4 = .ok (.invokevirtual 95, 3) := by decide +kernel
theorem dL_not_7 : decode cL_not 7 = .ok (.i2l, 1) := by decide +kernel
theorem dL_not_8 : decode cL_not 8 = .ok (.lastore, 1) := by decide +kernel
theorem dL_not_9 : decode cL_not 9 = .ok (.goto 12, 3) := by decide +kernel
theorem dL_not_12 : decode cL_not 12 = .ok (.astore_n 3, 1) := by decide +kernel
theorem dL_not_13 : decode cL_not 13 = .ok (.iconst 1, 1) := by decide +kernel
theorem dL_not_14 : decode cL_not 14 = .ok (.ireturn, 1) := by decide +kernel
theorem dL_not_15 : decode cL_not 15 = .ok (.astore_n 3, 1) := by decide +kernel
theorem dL_not_16 : decode cL_not 16 = .ok (.iconst 2, 1) := by decide +kernel
theorem dL_not_17 : decode cL_not 17 = .ok (.ireturn, 1) := by decide +kernel
theorem dL_not_18 : decode cL_not 18 = .ok (.astore_n 3, 1) := by decide +kernel
theorem dL_not_19 : decode cL_not 19 = .ok (.iconst 3, 1) := by decide +kernel
theorem dL_not_20 : decode cL_not 20 = .ok (.ireturn, 1) := by decide +kernel
theorem dL_not_21 : decode cL_not 21 = .ok (.iconst 0, 1) := by decide +kernel
theorem dL_not_22 : decode cL_not 22 = .ok (.ireturn, 1) := by decide +kernel
theorem dL_bind_0 : decode cL_bind 0 = .ok (.aload 5, 2) := by decide +kernel
theorem dL_bind_2 : decode cL_bind 2 = .ok (.iconst 0, 1) := by decide +kernel
theorem dL_bind_3 : decode cL_bind 3 = .ok (.aload_n 0, 1) := by decide +kernel
theorem dL_bind_4 : decode cL_bind 4 = .ok (.iload_n 1, 1) := by decide +kernel
theorem dL_bind_5 : decode cL_bind 5 = .ok (.iload_n 2, 1) := by decide +kernel
theorem dL_bind_6 : decode cL_bind 6 = .ok (.iload_n 3, 1) := by decide +kernel
theorem dL_bind_7 : decode cL_bind 7 = .ok (.iload 4, 2) := by decide +kernel
theorem dL_bind_9 : decode cL_bind 9 = .ok (.invokevirtual 98, 3) := by decide +kernel
theorem dL_bind_12 : decode cL_bind 12 = .ok (.i2l, 1) := by decide +kernel
theorem dL_bind_13 : decode cL_bind 13 = .ok (.lastore, 1) := by decide +kernel
theorem dL_bind_14 : decode cL_bind 14 = .ok (.goto 19, 3) := by decide +kernel
theorem dL_bind_17 : decode cL_bind 17 = .ok (.astore 6, 2) := by decide +kernel
theorem dL_bind_19 : decode cL_bind 19 = .ok (.iconst 1, 1) := by decide +kernel
theorem dL_bind_20 : decode cL_bind 20 = .ok (.ireturn, 1) := by decide +kernel
theorem dL_bind_21 : decode cL_bind 21 = .ok (.astore 6, 2) := by decide +kernel
theorem dL_bind_23 : decode cL_bind 23 = .ok (.iconst 2, 1) := by decide +kernel
theorem dL_bind_24 : decode cL_bind 24 = .ok (.ireturn, 1) := by decide +kernel
theorem dL_bind_25 : decode cL_bind 25 = .ok (.astore 6, 2) := by decide +kernel
theorem dL_bind_27 : decode cL_bind 27 = .ok (.iconst 3, 1) := by decide +kernel
theorem dL_bind_28 : decode cL_bind 28 = .ok (.ireturn, 1) := by decide +kernel
theorem dL_bind_29 : decode cL_bind 29 = .ok (.astore 6, 2) := by decide +kernel
theorem dL_bind_31 : decode cL_bind 31 = .ok (.iconst 4, 1) := by decide +kernel
theorem dL_bind_32 : decode cL_bind 32 = .ok (.ireturn, 1) := by decide +kernel
theorem dL_bind_33 : decode cL_bind 33 = .ok (.iconst 0, 1) := by decide +kernel
theorem dL_bind_34 : decode cL_bind 34 = .ok (.ireturn, 1) := by decide +kernel
theorem dL_free_0 : decode cL_free 0 = .ok (.aload_n 2, 1) := by decide +kernel
theorem dL_free_1 : decode cL_free 1 = .ok (.iconst 0, 1) := by decide +kernel
theorem dL_free_2 : decode cL_free 2 = .ok (.aload_n 0, 1) := by decide +kernel
theorem dL_free_3 : decode cL_free 3 = .ok (.iload_n 1, 1) := by decide +kernel
theorem dL_free_4 : decode cL_free 4 = .ok (.invokevirtual 102, 3) := by decide +kernel
theorem dL_free_7 : decode cL_free 7 = .ok (.i2l, 1) := by decide +kernel
theorem dL_free_8 : decode cL_free 8 = .ok (.lastore, 1) := by decide +kernel
theorem dL_free_9 : decode cL_free 9 = .ok (.goto 6, 3) := by decide +kernel
theorem dL_free_12 : decode cL_free 12 = .ok (.astore_n 3, 1) := by decide +kernel
theorem dL_free_13 : decode cL_free 13 = .ok (.iconst 1, 1) := by decide +kernel
theorem dL_free_14 : decode cL_free 14 = .ok (.ireturn, 1) := by decide +kernel
theorem dL_free_15 : decode cL_free 15 = .ok (.iconst 0, 1) := by decide +kernel
theorem dL_free_16 : decode cL_free 16 = .ok (.ireturn, 1) := by decide +kernel
theorem dL_value_0 : decode cL_value 0 = .ok (.aload_n 2, 1) := by decide +kernel
theorem dL_value_1 : decode cL_value 1 = .ok (.iconst 0, 1) := by decide +kernel
theorem dL_value_2 : decode cL_value 2 = .ok (.aload_n 0, 1) := by decide +kernel
theorem dL_value_3 : decode cL_value 3 = .ok (.iload_n 1, 1) := by decide +kernel
theorem dL_value_4 : decode cL_value 4 = .ok (.invokevirtual 105, 3) := by decide +kernel
theorem dL_value_7 : decode cL_value 7 = .ok (.i2l, 1) := by decide +kernel
theorem dL_value_8 : decode cL_value 8 = .ok (.lastore, 1) := by decide +kernel
theorem dL_value_9 : decode cL_value 9 = .ok (.goto 9, 3) := by decide +kernel
theorem dL_value_12 : decode cL_value 12 = .ok (.astore_n 3, 1) := by decide +kernel
theorem dL_value_13 : decode cL_value 13 = .ok (.iconst 1, 1) := by decide +kernel
theorem dL_value_14 : decode cL_value 14 = .ok (.ireturn, 1) := by decide +kernel
theorem dL_value_15 : decode cL_value 15 = .ok (.astore_n 3, 1) := by decide +kernel
theorem dL_value_16 : decode cL_value 16 = .ok (.iconst 2, 1) := by decide +kernel
theorem dL_value_17 : decode cL_value 17 = .ok (.ireturn, 1) := by decide +kernel
theorem dL_value_18 : decode cL_value 18 = .ok (.iconst 0, 1) := by decide +kernel
theorem dL_value_19 : decode cL_value 19 = .ok (.ireturn, 1) := by decide +kernel
theorem dL_forces_0 : decode cL_forces 0 = .ok (.aload_n 3, 1) := by decide +kernel
theorem dL_forces_1 : decode cL_forces 1 = .ok (.iconst 0, 1) := by decide +kernel
theorem dL_forces_2 : decode cL_forces 2 = .ok (.aload_n 0, 1) := by decide +kernel
theorem dL_forces_3 : decode cL_forces 3 = .ok (.iload_n 1, 1) := by decide +kernel
theorem dL_forces_4 : decode cL_forces 4 = .ok (.iload_n 2, 1) := by decide +kernel
theorem dL_forces_5 : decode cL_forces 5 = .ok (.invokevirtual 108, 3) := by decide +kernel
theorem dL_forces_8 : decode cL_forces 8 = .ok (.ifCond .eq 7, 3) := by decide +kernel
theorem dL_forces_11 : decode cL_forces 11 = .ok (.lconst 1, 1) := by decide +kernel
theorem dL_forces_12 : decode cL_forces 12 = .ok (.goto 4, 3) := by decide +kernel
theorem dL_forces_15 : decode cL_forces 15 = .ok (.lconst 0, 1) := by decide +kernel
theorem dL_forces_16 : decode cL_forces 16 = .ok (.lastore, 1) := by decide +kernel
theorem dL_forces_17 : decode cL_forces 17 = .ok (.goto 11, 3) := by decide +kernel
theorem dL_forces_20 : decode cL_forces 20 = .ok (.astore 4, 2) := by decide +kernel
theorem dL_forces_22 : decode cL_forces 22 = .ok (.iconst 1, 1) := by decide +kernel
theorem dL_forces_23 : decode cL_forces 23 = .ok (.ireturn, 1) := by decide +kernel
theorem dL_forces_24 : decode cL_forces 24 = .ok (.astore 4, 2) := by decide +kernel
theorem dL_forces_26 : decode cL_forces 26 = .ok (.iconst 2, 1) := by decide +kernel
theorem dL_forces_27 : decode cL_forces 27 = .ok (.ireturn, 1) := by decide +kernel
theorem dL_forces_28 : decode cL_forces 28 = .ok (.iconst 0, 1) := by decide +kernel
theorem dL_forces_29 : decode cL_forces 29 = .ok (.ireturn, 1) := by decide +kernel
theorem dL_weakly_0 : decode cL_weakly 0 = .ok (.aload_n 3, 1) := by decide +kernel
theorem dL_weakly_1 : decode cL_weakly 1 = .ok (.iconst 0, 1) := by decide +kernel
theorem dL_weakly_2 : decode cL_weakly 2 = .ok (.aload_n 0, 1) := by decide +kernel
theorem dL_weakly_3 : decode cL_weakly 3 = .ok (.iload_n 1, 1) := by decide +kernel
theorem dL_weakly_4 : decode cL_weakly 4 = .ok (.iload_n 2, 1) := by decide +kernel
theorem dL_weakly_5 : decode cL_weakly 5 = .ok (.invokevirtual 111, 3) := by decide +kernel
theorem dL_weakly_8 : decode cL_weakly 8 = .ok (.ifCond .eq 7, 3) := by decide +kernel
theorem dL_weakly_11 : decode cL_weakly 11 = .ok (.lconst 1, 1) := by decide +kernel
theorem dL_weakly_12 : decode cL_weakly 12 = .ok (.goto 4, 3) := by decide +kernel
theorem dL_weakly_15 : decode cL_weakly 15 = .ok (.lconst 0, 1) := by decide +kernel
theorem dL_weakly_16 : decode cL_weakly 16 = .ok (.lastore, 1) := by decide +kernel
theorem dL_weakly_17 : decode cL_weakly 17 = .ok (.goto 11, 3) := by decide +kernel
theorem dL_weakly_20 : decode cL_weakly 20 = .ok (.astore 4, 2) := by decide +kernel
theorem dL_weakly_22 : decode cL_weakly 22 = .ok (.iconst 1, 1) := by decide +kernel
theorem dL_weakly_23 : decode cL_weakly 23 = .ok (.ireturn, 1) := by decide +kernel
theorem dL_weakly_24 : decode cL_weakly 24 = .ok (.astore 4, 2) := by decide +kernel
theorem dL_weakly_26 : decode cL_weakly 26 = .ok (.iconst 2, 1) := by decide +kernel
theorem dL_weakly_27 : decode cL_weakly 27 = .ok (.ireturn, 1) := by decide +kernel
theorem dL_weakly_28 : decode cL_weakly 28 = .ok (.iconst 0, 1) := by decide +kernel
theorem dL_weakly_29 : decode cL_weakly 29 = .ok (.ireturn, 1) := by decide +kernel
theorem dL_holds_0 : decode cL_holds 0 = .ok (.aload_n 3, 1) := by decide +kernel
theorem dL_holds_1 : decode cL_holds 1 = .ok (.iconst 0, 1) := by decide +kernel
theorem dL_holds_2 : decode cL_holds 2 = .ok (.aload_n 0, 1) := by decide +kernel
theorem dL_holds_3 : decode cL_holds 3 = .ok (.iload_n 1, 1) := by decide +kernel
theorem dL_holds_4 : decode cL_holds 4 = .ok (.iload_n 2, 1) := by decide +kernel
theorem dL_holds_5 : decode cL_holds 5 = .ok (.invokevirtual 114, 3) := by decide +kernel
theorem dL_holds_8 : decode cL_holds 8 = .ok (.ifCond .eq 7, 3) := by decide +kernel
theorem dL_holds_11 : decode cL_holds 11 = .ok (.lconst 1, 1) := by decide +kernel
theorem dL_holds_12 : decode cL_holds 12 = .ok (.goto 4, 3) := by decide +kernel
theorem dL_holds_15 : decode cL_holds 15 = .ok (.lconst 0, 1) := by decide +kernel
theorem dL_holds_16 : decode cL_holds 16 = .ok (.lastore, 1) := by decide +kernel
theorem dL_holds_17 : decode cL_holds 17 = .ok (.goto 15, 3) := by decide +kernel
theorem dL_holds_20 : decode cL_holds 20 = .ok (.astore 4, 2) := by decide +kernel
theorem dL_holds_22 : decode cL_holds 22 = .ok (.iconst 1, 1) := by decide +kernel
theorem dL_holds_23 : decode cL_holds 23 = .ok (.ireturn, 1) := by decide +kernel
theorem dL_holds_24 : decode cL_holds 24 = .ok (.astore 4, 2) := by decide +kernel
theorem dL_holds_26 : decode cL_holds 26 = .ok (.iconst 2, 1) := by decide +kernel
theorem dL_holds_27 : decode cL_holds 27 = .ok (.ireturn, 1) := by decide +kernel
theorem dL_holds_28 : decode cL_holds 28 = .ok (.astore 4, 2) := by decide +kernel
theorem dL_holds_30 : decode cL_holds 30 = .ok (.iconst 3, 1) := by decide +kernel
theorem dL_holds_31 : decode cL_holds 31 = .ok (.ireturn, 1) := by decide +kernel
theorem dL_holds_32 : decode cL_holds 32 = .ok (.iconst 0, 1) := by decide +kernel
theorem dL_holds_33 : decode cL_holds 33 = .ok (.ireturn, 1) := by decide +kernel
theorem dL_against_0 : decode cL_against 0 = .ok (.aload_n 2, 1) := by decide +kernel
theorem dL_against_1 : decode cL_against 1 = .ok (.iconst 0, 1) := by decide +kernel
theorem dL_against_2 : decode cL_against 2 = .ok (.aload_n 0, 1) := by decide +kernel
theorem dL_against_3 : decode cL_against 3 = .ok (.iload_n 1, 1) := by decide +kernel
theorem dL_against_4 : decode cL_against 4 = .ok (.invokevirtual 117, 3) := by decide +kernel
theorem dL_against_7 : decode cL_against 7 = .ok (.i2l, 1) := by decide +kernel
theorem dL_against_8 : decode cL_against 8 = .ok (.lastore, 1) := by decide +kernel
theorem dL_against_9 : decode cL_against 9 = .ok (.goto 12, 3) := by decide +kernel
theorem dL_against_12 : decode cL_against 12 = .ok (.astore_n 3, 1) := by decide +kernel
theorem dL_against_13 : decode cL_against 13 = .ok (.iconst 1, 1) := by decide +kernel
theorem dL_against_14 : decode cL_against 14 = .ok (.ireturn, 1) := by decide +kernel
theorem dL_against_15 : decode cL_against 15 = .ok (.astore_n 3, 1) := by decide +kernel
theorem dL_against_16 : decode cL_against 16 = .ok (.iconst 2, 1) := by decide +kernel
theorem dL_against_17 : decode cL_against 17 = .ok (.ireturn, 1) := by decide +kernel
theorem dL_against_18 : decode cL_against 18 = .ok (.astore_n 3, 1) := by decide +kernel
theorem dL_against_19 : decode cL_against 19 = .ok (.iconst 3, 1) := by decide +kernel
theorem dL_against_20 : decode cL_against 20 = .ok (.ireturn, 1) := by decide +kernel
theorem dL_against_21 : decode cL_against 21 = .ok (.iconst 0, 1) := by decide +kernel
theorem dL_against_22 : decode cL_against 22 = .ok (.ireturn, 1) := by decide +kernel
theorem dL_swap_0 : decode cL_swap 0 = .ok (.aload_n 3, 1) := by decide +kernel
theorem dL_swap_1 : decode cL_swap 1 = .ok (.iconst 0, 1) := by decide +kernel
theorem dL_swap_2 : decode cL_swap 2 = .ok (.aload_n 0, 1) := by decide +kernel
theorem dL_swap_3 : decode cL_swap 3 = .ok (.iload_n 1, 1) := by decide +kernel
theorem dL_swap_4 : decode cL_swap 4 = .ok (.iload_n 2, 1) := by decide +kernel
theorem dL_swap_5 : decode cL_swap 5 = .ok (.invokevirtual 122, 3) := by decide +kernel
theorem dL_swap_8 : decode cL_swap 8 = .ok (.ifCond .eq 7, 3) := by decide +kernel
theorem dL_swap_11 : decode cL_swap 11 = .ok (.lconst 1, 1) := by decide +kernel
theorem dL_swap_12 : decode cL_swap 12 = .ok (.goto 4, 3) := by decide +kernel
theorem dL_swap_15 : decode cL_swap 15 = .ok (.lconst 0, 1) := by decide +kernel
theorem dL_swap_16 : decode cL_swap 16 = .ok (.lastore, 1) := by decide +kernel
theorem dL_swap_17 : decode cL_swap 17 = .ok (.goto 7, 3) := by decide +kernel
theorem dL_swap_20 : decode cL_swap 20 = .ok (.astore 4, 2) := by decide +kernel
theorem dL_swap_22 : decode cL_swap 22 = .ok (.iconst 1, 1) := by decide +kernel
theorem dL_swap_23 : decode cL_swap 23 = .ok (.ireturn, 1) := by decide +kernel
theorem dL_swap_24 : decode cL_swap 24 = .ok (.iconst 0, 1) := by decide +kernel
theorem dL_swap_25 : decode cL_swap 25 = .ok (.ireturn, 1) := by decide +kernel
theorem dL_goes_0 : decode cL_goes 0 = .ok (.aload_n 2, 1) := by decide +kernel
theorem dL_goes_1 : decode cL_goes 1 = .ok (.iconst 0, 1) := by decide +kernel
theorem dL_goes_2 : decode cL_goes 2 = .ok (.aload_n 0, 1) := by decide +kernel
theorem dL_goes_3 : decode cL_goes 3 = .ok (.iload_n 1, 1) := by decide +kernel
theorem dL_goes_4 : decode cL_goes 4 = .ok (.invokevirtual 125, 3) := by decide +kernel
theorem dL_goes_7 : decode cL_goes 7 = .ok (.i2l, 1) := by decide +kernel
theorem dL_goes_8 : decode cL_goes 8 = .ok (.lastore, 1) := by decide +kernel
theorem dL_goes_9 : decode cL_goes 9 = .ok (.goto 6, 3) := by decide +kernel
theorem dL_goes_12 : decode cL_goes 12 = .ok (.astore_n 3, 1) := by decide +kernel
theorem dL_goes_13 : decode cL_goes 13 = .ok (.iconst 1, 1) := by decide +kernel
theorem dL_goes_14 : decode cL_goes 14 = .ok (.ireturn, 1) := by decide +kernel
theorem dL_goes_15 : decode cL_goes 15 = .ok (.iconst 0, 1) := by decide +kernel
theorem dL_goes_16 : decode cL_goes 16 = .ok (.ireturn, 1) := by decide +kernel
theorem dL_isFixed_0 : decode cL_isFixed 0 = .ok (.aload_n 2, 1) := by decide +kernel
theorem dL_isFixed_1 : decode cL_isFixed 1 = .ok (.iconst 0, 1) := by decide +kernel
theorem dL_isFixed_2 : decode cL_isFixed 2 = .ok (.aload_n 0, 1) := by decide +kernel
theorem dL_isFixed_3 : decode cL_isFixed 3 = .ok (.iload_n 1, 1) := by decide +kernel
theorem dL_isFixed_4 : decode cL_isFixed 4 = .ok (.invokevirtual 128, 3) := by decide +kernel
theorem dL_isFixed_7 : decode cL_isFixed 7 = .ok (.ifCond .eq 7, 3) := by decide +kernel
theorem dL_isFixed_10 : decode cL_isFixed 10 = .ok (.lconst 1, 1) := by decide +kernel
theorem dL_isFixed_11 : decode cL_isFixed 11 = .ok (.goto 4, 3) := by decide +kernel
theorem dL_isFixed_14 : decode cL_isFixed 14 = .ok (.lconst 0, 1) := by decide +kernel
theorem dL_isFixed_15 : decode cL_isFixed 15 = .ok (.lastore, 1) := by decide +kernel
theorem dL_isFixed_16 : decode cL_isFixed 16 = .ok (.goto 9, 3) := by decide +kernel
theorem dL_isFixed_19 : decode cL_isFixed 19 = .ok (.astore_n 3, 1) := by decide +kernel
theorem dL_isFixed_20 : decode cL_isFixed 20 = .ok (.iconst 1, 1) := by decide +kernel
theorem dL_isFixed_21 : decode cL_isFixed 21 = .ok (.ireturn, 1) := by decide +kernel
theorem dL_isFixed_22 : decode cL_isFixed 22 = .ok (.astore_n 3, 1) := by decide +kernel
theorem dL_isFixed_23 : decode cL_isFixed 23 = .ok (.iconst 2, 1) := by decide +kernel
theorem dL_isFixed_24 : decode cL_isFixed 24 = .ok (.ireturn, 1) := by decide +kernel
theorem dL_isFixed_25 : decode cL_isFixed 25 = .ok (.iconst 0, 1) := by decide +kernel
theorem dL_isFixed_26 : decode cL_isFixed 26 = .ok (.ireturn, 1) := by decide +kernel
theorem dL_lastShare_0 : decode cL_lastShare 0 = .ok (.aload_n 1, 1) := by decide +kernel
theorem dL_lastShare_1 : decode cL_lastShare 1 = .ok (.iconst 0, 1) := by decide +kernel
theorem dL_lastShare_2 : decode cL_lastShare 2 = .ok (.aload_n 0, 1) := by decide +kernel
theorem dL_lastShare_3 : decode cL_lastShare 3 = .ok (.invokevirtual 131, 3) := by decide +kernel
theorem dL_lastShare_6 : decode cL_lastShare 6 = .ok (.f2d, 1) := by decide +kernel
theorem dL_lastShare_7 : decode cL_lastShare 7 = .ok (.dastore, 1) := by decide +kernel
theorem dL_lastShare_8 : decode cL_lastShare 8 = .ok (.goto 6, 3) := by decide +kernel
theorem dL_lastShare_11 : decode cL_lastShare 11 = .ok (.astore_n 2, 1) := by decide +kernel
theorem dL_lastShare_12 : decode cL_lastShare 12 = .ok (.iconst 1, 1) := by decide +kernel
theorem dL_lastShare_13 : decode cL_lastShare 13 = .ok (.ireturn, 1) := by decide +kernel
theorem dL_lastShare_14 : decode cL_lastShare 14 = .ok (.iconst 0, 1) := by decide +kernel
theorem dL_lastShare_15 : decode cL_lastShare 15 = .ok (.ireturn, 1) := by decide +kernel
theorem dL_meanRank_0 : decode cL_meanRank 0 = .ok (.aload_n 1, 1) := by decide +kernel
theorem dL_meanRank_1 : decode cL_meanRank 1 = .ok (.iconst 0, 1) := by decide +kernel
theorem dL_meanRank_2 : decode cL_meanRank 2 = .ok (.aload_n 0, 1) := by decide +kernel
theorem dL_meanRank_3 : decode cL_meanRank 3 = .ok (.invokevirtual 135, 3) := by decide +kernel
theorem dL_meanRank_6 : decode cL_meanRank 6 = .ok (.dastore, 1) := by decide +kernel
theorem dL_meanRank_7 : decode cL_meanRank 7 = .ok (.goto 6, 3) := by decide +kernel
theorem dL_meanRank_10 : decode cL_meanRank 10 = .ok (.astore_n 2, 1) := by decide +kernel
theorem dL_meanRank_11 : decode cL_meanRank 11 = .ok (.iconst 1, 1) := by decide +kernel
theorem dL_meanRank_12 : decode cL_meanRank 12 = .ok (.ireturn, 1) := by decide +kernel
theorem dL_meanRank_13 : decode cL_meanRank 13 = .ok (.iconst 0, 1) := by decide +kernel
theorem dL_meanRank_14 : decode cL_meanRank 14 = .ok (.ireturn, 1) := by decide +kernel
theorem dL_law_0 : decode cL_law 0 = .ok (.new 8, 3) := by decide +kernel
theorem dL_law_3 : decode cL_law 3 = .ok (.dup, 1) := by decide +kernel
theorem dL_law_4 : decode cL_law 4 = .ok (.invokespecial 139, 3) := by decide +kernel
theorem dL_law_7 : decode cL_law 7 = .ok (.astore_n 1, 1) := by decide +kernel
theorem dL_law_8 : decode cL_law 8 = .ok (.new 140, 3) := by decide +kernel
theorem dL_law_11 : decode cL_law 11 = .ok (.dup, 1) := by decide +kernel
theorem dL_law_12 : decode cL_law 12 = .ok (.invokespecial 142, 3) := by decide +kernel
theorem dL_law_15 : decode cL_law 15 = .ok (.astore_n 2, 1) := by decide +kernel
theorem dL_law_16 : decode cL_law 16 = .ok (.iconst 1, 1) := by decide +kernel
theorem dL_law_17 : decode cL_law 17 = .ok (.newarray .long, 2) := by decide +kernel
theorem dL_law_19 : decode cL_law 19 = .ok (.astore_n 3, 1) := by decide +kernel
theorem dL_law_20 : decode cL_law 20 = .ok (.iconst 1, 1) := by decide +kernel
theorem dL_law_21 : decode cL_law 21 = .ok (.newarray .double, 2) := by decide +kernel
theorem dL_law_23 : decode cL_law 23 = .ok (.astore 4, 2) := by decide +kernel
theorem dL_law_25 : decode cL_law 25 = .ok (.iconst 0, 1) := by decide +kernel
theorem dL_law_26 : decode cL_law 26 = .ok (.istore 5, 2) := by decide +kernel
theorem dL_law_28 : decode cL_law 28 = .ok (.iload 5, 2) := by decide +kernel
theorem dL_law_30 : decode cL_law 30 = .ok (.aload_n 0, 1) := by decide +kernel
theorem dL_law_31 : decode cL_law 31 = .ok (.arraylength, 1) := by decide +kernel
theorem dL_law_32 : decode cL_law 32 = .ok (.iconst 5, 1) := by decide +kernel
theorem dL_law_33 : decode cL_law 33 = .ok (.isub, 1) := by decide +kernel
theorem dL_law_34 : decode cL_law 34 = .ok (.if_icmp .gt 2709, 3) := by decide +kernel
theorem dL_law_37 : decode cL_law 37 = .ok (.aload_n 0, 1) := by decide +kernel
theorem dL_law_38 : decode cL_law 38 = .ok (.iload 5, 2) := by decide +kernel
theorem dL_law_40 : decode cL_law 40 = .ok (.iaload, 1) := by decide +kernel
theorem dL_law_41 : decode cL_law 41 = .ok (.bipush 63, 2) := by decide +kernel
theorem dL_law_43 : decode cL_law 43 = .ok (.iand, 1) := by decide +kernel
theorem dL_law_44 : decode cL_law 44 = .ok (.tableswitch 2693 0 42 #[188, 232, 300, 375, 450, 463, 526, 539, 602, 665, 678, 691, 747, 803, 859, 903, 983, 1039, 1095, 1151, 1219, 1287, 1355, 1442, 1529, 1621, 1703, 1785, 1841, 1935, 1991, 2047, 2122, 2197, 2272, 2328, 2403, 2459, 2522, 2535, 2549, 2615, 2680], 188) := by decide +kernel
theorem dL_law_232 : decode cL_law 232 = .ok (.aload_n 1, 1) := by decide +kernel
theorem dL_law_233 : decode cL_law 233 = .ok (.aload_n 3, 1) := by decide +kernel
theorem dL_law_234 : decode cL_law 234 = .ok (.invokestatic 143, 3) := by decide +kernel
theorem dL_law_237 : decode cL_law 237 = .ok (.istore 6, 2) := by decide +kernel
theorem dL_law_239 : decode cL_law 239 = .ok (.aload_n 2, 1) := by decide +kernel
theorem dL_law_240 : decode cL_law 240 = .ok (.invokevirtual 148, 3) := by decide +kernel
theorem dL_law_243 : decode cL_law 243 = .ok (.istore 7, 2) := by decide +kernel
theorem dL_law_245 : decode cL_law 245 = .ok (.aload_n 2, 1) := by decide +kernel
theorem dL_law_246 : decode cL_law 246 = .ok (.invokevirtual 149, 3) := by decide +kernel
theorem dL_law_249 : decode cL_law 249 = .ok (.iload 6, 2) := by decide +kernel
theorem dL_law_251 : decode cL_law 251 = .ok (.if_icmp .eq 5, 3) := by decide +kernel
theorem dL_law_254 : decode cL_law 254 = .ok (.iconst 0, 1) := by decide +kernel
theorem dL_law_255 : decode cL_law 255 = .ok (.ireturn, 1) := by decide +kernel
theorem dL_law_256 : decode cL_law 256 = .ok (.iload 6, 2) := by decide +kernel
theorem dL_law_258 : decode cL_law 258 = .ok (.ifCond .ne 15, 3) := by decide +kernel
theorem dL_law_261 : decode cL_law 261 = .ok (.aload_n 3, 1) := by decide +kernel
theorem dL_law_262 : decode cL_law 262 = .ok (.iconst 0, 1) := by decide +kernel
theorem dL_law_263 : decode cL_law 263 = .ok (.laload, 1) := by decide +kernel
theorem dL_law_264 : decode cL_law 264 = .ok (.iload 7, 2) := by decide +kernel
theorem dL_law_266 : decode cL_law 266 = .ok (.i2l, 1) := by decide +kernel
theorem dL_law_267 : decode cL_law 267 = .ok (.lcmp, 1) := by decide +kernel
theorem dL_law_268 : decode cL_law 268 = .ok (.ifCond .eq 5, 3) := by decide +kernel
theorem dL_law_271 : decode cL_law 271 = .ok (.iconst 0, 1) := by decide +kernel
theorem dL_law_272 : decode cL_law 272 = .ok (.ireturn, 1) := by decide +kernel
theorem dL_law_273 : decode cL_law 273 = .ok (.goto 2464, 3) := by decide +kernel
theorem dL_law_276 : decode cL_law 276 = .ok (.aload_n 1, 1) := by decide +kernel
theorem dL_law_277 : decode cL_law 277 = .ok (.aload_n 0, 1) := by decide +kernel
theorem dL_law_278 : decode cL_law 278 = .ok (.iload 5, 2) := by decide +kernel
theorem dL_law_280 : decode cL_law 280 = .ok (.iconst 1, 1) := by decide +kernel
theorem dL_law_281 : decode cL_law 281 = .ok (.iadd, 1) := by decide +kernel
theorem dL_law_282 : decode cL_law 282 = .ok (.iaload, 1) := by decide +kernel
theorem dL_law_283 : decode cL_law 283 = .ok (.aload_n 0, 1) := by decide +kernel
theorem dL_law_284 : decode cL_law 284 = .ok (.iload 5, 2) := by decide +kernel
theorem dL_law_286 : decode cL_law 286 = .ok (.iconst 2, 1) := by decide +kernel
theorem dL_law_287 : decode cL_law 287 = .ok (.iadd, 1) := by decide +kernel
theorem dL_law_288 : decode cL_law 288 = .ok (.iaload, 1) := by decide +kernel
theorem dL_law_289 : decode cL_law 289 = .ok (.aload_n 3, 1) := by decide +kernel
theorem dL_law_290 : decode cL_law 290 = .ok (.invokestatic 152, 3) := by decide +kernel
theorem dL_law_293 : decode cL_law 293 = .ok (.istore 6, 2) := by decide +kernel
theorem dL_law_295 : decode cL_law 295 = .ok (.aload_n 2, 1) := by decide +kernel
theorem dL_law_296 : decode cL_law 296 = .ok (.aload_n 0, 1) := by decide +kernel
theorem dL_law_297 : decode cL_law 297 = .ok (.iload 5, 2) := by decide +kernel
theorem dL_law_299 : decode cL_law 299 = .ok (.iconst 1, 1) := by decide +kernel
theorem dL_law_300 : decode cL_law 300 = .ok (.iadd, 1) := by decide +kernel
theorem dL_law_301 : decode cL_law 301 = .ok (.iaload, 1) := by decide +kernel
theorem dL_law_302 : decode cL_law 302 = .ok (.aload_n 0, 1) := by decide +kernel
theorem dL_law_303 : decode cL_law 303 = .ok (.iload 5, 2) := by decide +kernel
theorem dL_law_305 : decode cL_law 305 = .ok (.iconst 2, 1) := by decide +kernel
theorem dL_law_306 : decode cL_law 306 = .ok (.iadd, 1) := by decide +kernel
theorem dL_law_307 : decode cL_law 307 = .ok (.iaload, 1) := by decide +kernel
theorem dL_law_308 : decode cL_law 308 = .ok (.invokevirtual 155, 3) := by decide +kernel
theorem dL_law_311 : decode cL_law 311 = .ok (.istore 7, 2) := by decide +kernel
theorem dL_law_313 : decode cL_law 313 = .ok (.aload_n 2, 1) := by decide +kernel
theorem dL_law_314 : decode cL_law 314 = .ok (.invokevirtual 149, 3) := by decide +kernel
theorem dL_law_317 : decode cL_law 317 = .ok (.iload 6, 2) := by decide +kernel
theorem dL_law_319 : decode cL_law 319 = .ok (.if_icmp .eq 5, 3) := by decide +kernel
theorem dL_law_322 : decode cL_law 322 = .ok (.iconst 0, 1) := by decide +kernel
theorem dL_law_323 : decode cL_law 323 = .ok (.ireturn, 1) := by decide +kernel
theorem dL_law_324 : decode cL_law 324 = .ok (.iload 6, 2) := by decide +kernel
theorem dL_law_326 : decode cL_law 326 = .ok (.ifCond .ne 15, 3) := by decide +kernel
theorem dL_law_329 : decode cL_law 329 = .ok (.aload_n 3, 1) := by decide +kernel
theorem dL_law_330 : decode cL_law 330 = .ok (.iconst 0, 1) := by decide +kernel
theorem dL_law_331 : decode cL_law 331 = .ok (.laload, 1) := by decide +kernel
theorem dL_law_332 : decode cL_law 332 = .ok (.iload 7, 2) := by decide +kernel
theorem dL_law_334 : decode cL_law 334 = .ok (.i2l, 1) := by decide +kernel
theorem dL_law_335 : decode cL_law 335 = .ok (.lcmp, 1) := by decide +kernel
theorem dL_law_336 : decode cL_law 336 = .ok (.ifCond .eq 5, 3) := by decide +kernel
theorem dL_law_339 : decode cL_law 339 = .ok (.iconst 0, 1) := by decide +kernel
theorem dL_law_340 : decode cL_law 340 = .ok (.ireturn, 1) := by decide +kernel
theorem dL_law_341 : decode cL_law 341 = .ok (.goto 2396, 3) := by decide +kernel
theorem dL_law_344 : decode cL_law 344 = .ok (.aload_n 1, 1) := by decide +kernel
theorem dL_law_345 : decode cL_law 345 = .ok (.aload_n 0, 1) := by decide +kernel
theorem dL_law_346 : decode cL_law 346 = .ok (.iload 5, 2) := by decide +kernel
theorem dL_law_348 : decode cL_law 348 = .ok (.iconst 1, 1) := by decide +kernel
theorem dL_law_349 : decode cL_law 349 = .ok (.iadd, 1) := by decide +kernel
theorem dL_law_350 : decode cL_law 350 = .ok (.iaload, 1) := by decide +kernel
theorem dL_law_351 : decode cL_law 351 = .ok (.aload_n 0, 1) := by decide +kernel
theorem dL_law_352 : decode cL_law 352 = .ok (.iload 5, 2) := by decide +kernel
theorem dL_law_354 : decode cL_law 354 = .ok (.iconst 2, 1) := by decide +kernel
theorem dL_law_355 : decode cL_law 355 = .ok (.iadd, 1) := by decide +kernel
theorem dL_law_356 : decode cL_law 356 = .ok (.iaload, 1) := by decide +kernel
theorem dL_law_357 : decode cL_law 357 = .ok (.aload_n 3, 1) := by decide +kernel
theorem dL_law_358 : decode cL_law 358 = .ok (.invokestatic 156, 3) := by decide +kernel
theorem dL_law_361 : decode cL_law 361 = .ok (.istore 6, 2) := by decide +kernel
theorem dL_law_363 : decode cL_law 363 = .ok (.aload_n 2, 1) := by decide +kernel
theorem dL_law_364 : decode cL_law 364 = .ok (.aload_n 0, 1) := by decide +kernel
theorem dL_law_365 : decode cL_law 365 = .ok (.iload 5, 2) := by decide +kernel
theorem dL_law_367 : decode cL_law 367 = .ok (.iconst 1, 1) := by decide +kernel
theorem dL_law_368 : decode cL_law 368 = .ok (.iadd, 1) := by decide +kernel
theorem dL_law_369 : decode cL_law 369 = .ok (.iaload, 1) := by decide +kernel
theorem dL_law_370 : decode cL_law 370 = .ok (.aload_n 0, 1) := by decide +kernel
theorem dL_law_371 : decode cL_law 371 = .ok (.iload 5, 2) := by decide +kernel
theorem dL_law_373 : decode cL_law 373 = .ok (.iconst 2, 1) := by decide +kernel
theorem dL_law_374 : decode cL_law 374 = .ok (.iadd, 1) := by decide +kernel
theorem dL_law_375 : decode cL_law 375 = .ok (.iaload, 1) := by decide +kernel
theorem dL_law_376 : decode cL_law 376 = .ok (.invokevirtual 158, 3) := by decide +kernel
theorem dL_law_379 : decode cL_law 379 = .ok (.istore 7, 2) := by decide +kernel
theorem dL_law_381 : decode cL_law 381 = .ok (.aload_n 2, 1) := by decide +kernel
theorem dL_law_382 : decode cL_law 382 = .ok (.invokevirtual 149, 3) := by decide +kernel
theorem dL_law_385 : decode cL_law 385 = .ok (.iload 6, 2) := by decide +kernel
theorem dL_law_387 : decode cL_law 387 = .ok (.if_icmp .eq 5, 3) := by decide +kernel
theorem dL_law_390 : decode cL_law 390 = .ok (.iconst 0, 1) := by decide +kernel
theorem dL_law_391 : decode cL_law 391 = .ok (.ireturn, 1) := by decide +kernel
theorem dL_law_392 : decode cL_law 392 = .ok (.iload 6, 2) := by decide +kernel
theorem dL_law_394 : decode cL_law 394 = .ok (.ifCond .ne 22, 3) := by decide +kernel
theorem dL_law_397 : decode cL_law 397 = .ok (.aload_n 3, 1) := by decide +kernel
theorem dL_law_398 : decode cL_law 398 = .ok (.iconst 0, 1) := by decide +kernel
theorem dL_law_399 : decode cL_law 399 = .ok (.laload, 1) := by decide +kernel
theorem dL_law_400 : decode cL_law 400 = .ok (.iload 7, 2) := by decide +kernel
theorem dL_law_402 : decode cL_law 402 = .ok (.ifCond .eq 7, 3) := by decide +kernel
theorem dL_law_405 : decode cL_law 405 = .ok (.lconst 1, 1) := by decide +kernel
theorem dL_law_406 : decode cL_law 406 = .ok (.goto 4, 3) := by decide +kernel
theorem dL_law_409 : decode cL_law 409 = .ok (.lconst 0, 1) := by decide +kernel
theorem dL_law_410 : decode cL_law 410 = .ok (.lcmp, 1) := by decide +kernel
theorem dL_law_411 : decode cL_law 411 = .ok (.ifCond .eq 5, 3) := by decide +kernel
theorem dL_law_414 : decode cL_law 414 = .ok (.iconst 0, 1) := by decide +kernel
theorem dL_law_415 : decode cL_law 415 = .ok (.ireturn, 1) := by decide +kernel
theorem dL_law_416 : decode cL_law 416 = .ok (.goto 2321, 3) := by decide +kernel
theorem dL_law_419 : decode cL_law 419 = .ok (.aload_n 1, 1) := by decide +kernel
theorem dL_law_420 : decode cL_law 420 = .ok (.aload_n 0, 1) := by decide +kernel
theorem dL_law_421 : decode cL_law 421 = .ok (.iload 5, 2) := by decide +kernel
theorem dL_law_423 : decode cL_law 423 = .ok (.iconst 1, 1) := by decide +kernel
theorem dL_law_424 : decode cL_law 424 = .ok (.iadd, 1) := by decide +kernel
theorem dL_law_425 : decode cL_law 425 = .ok (.iaload, 1) := by decide +kernel
theorem dL_law_426 : decode cL_law 426 = .ok (.aload_n 0, 1) := by decide +kernel
theorem dL_law_427 : decode cL_law 427 = .ok (.iload 5, 2) := by decide +kernel
theorem dL_law_429 : decode cL_law 429 = .ok (.iconst 2, 1) := by decide +kernel
theorem dL_law_430 : decode cL_law 430 = .ok (.iadd, 1) := by decide +kernel
theorem dL_law_431 : decode cL_law 431 = .ok (.iaload, 1) := by decide +kernel
theorem dL_law_432 : decode cL_law 432 = .ok (.aload_n 3, 1) := by decide +kernel
theorem dL_law_433 : decode cL_law 433 = .ok (.invokestatic 159, 3) := by decide +kernel
theorem dL_law_436 : decode cL_law 436 = .ok (.istore 6, 2) := by decide +kernel
theorem dL_law_438 : decode cL_law 438 = .ok (.aload_n 2, 1) := by decide +kernel
theorem dL_law_439 : decode cL_law 439 = .ok (.aload_n 0, 1) := by decide +kernel
theorem dL_law_440 : decode cL_law 440 = .ok (.iload 5, 2) := by decide +kernel
theorem dL_law_442 : decode cL_law 442 = .ok (.iconst 1, 1) := by decide +kernel
theorem dL_law_443 : decode cL_law 443 = .ok (.iadd, 1) := by decide +kernel
theorem dL_law_444 : decode cL_law 444 = .ok (.iaload, 1) := by decide +kernel
theorem dL_law_445 : decode cL_law 445 = .ok (.aload_n 0, 1) := by decide +kernel
theorem dL_law_446 : decode cL_law 446 = .ok (.iload 5, 2) := by decide +kernel
theorem dL_law_448 : decode cL_law 448 = .ok (.iconst 2, 1) := by decide +kernel
theorem dL_law_449 : decode cL_law 449 = .ok (.iadd, 1) := by decide +kernel
theorem dL_law_450 : decode cL_law 450 = .ok (.iaload, 1) := by decide +kernel
theorem dL_law_451 : decode cL_law 451 = .ok (.invokevirtual 161, 3) := by decide +kernel
theorem dL_law_454 : decode cL_law 454 = .ok (.istore 7, 2) := by decide +kernel
theorem dL_law_456 : decode cL_law 456 = .ok (.aload_n 2, 1) := by decide +kernel
theorem dL_law_457 : decode cL_law 457 = .ok (.invokevirtual 149, 3) := by decide +kernel
theorem dL_law_460 : decode cL_law 460 = .ok (.iload 6, 2) := by decide +kernel
theorem dL_law_462 : decode cL_law 462 = .ok (.if_icmp .eq 5, 3) := by decide +kernel
theorem dL_law_465 : decode cL_law 465 = .ok (.iconst 0, 1) := by decide +kernel
theorem dL_law_466 : decode cL_law 466 = .ok (.ireturn, 1) := by decide +kernel
theorem dL_law_467 : decode cL_law 467 = .ok (.iload 6, 2) := by decide +kernel
theorem dL_law_469 : decode cL_law 469 = .ok (.ifCond .ne 22, 3) := by decide +kernel
theorem dL_law_472 : decode cL_law 472 = .ok (.aload_n 3, 1) := by decide +kernel
theorem dL_law_473 : decode cL_law 473 = .ok (.iconst 0, 1) := by decide +kernel
theorem dL_law_474 : decode cL_law 474 = .ok (.laload, 1) := by decide +kernel
theorem dL_law_475 : decode cL_law 475 = .ok (.iload 7, 2) := by decide +kernel
theorem dL_law_477 : decode cL_law 477 = .ok (.ifCond .eq 7, 3) := by decide +kernel
theorem dL_law_480 : decode cL_law 480 = .ok (.lconst 1, 1) := by decide +kernel
theorem dL_law_481 : decode cL_law 481 = .ok (.goto 4, 3) := by decide +kernel
theorem dL_law_484 : decode cL_law 484 = .ok (.lconst 0, 1) := by decide +kernel
theorem dL_law_485 : decode cL_law 485 = .ok (.lcmp, 1) := by decide +kernel
theorem dL_law_486 : decode cL_law 486 = .ok (.ifCond .eq 5, 3) := by decide +kernel
theorem dL_law_489 : decode cL_law 489 = .ok (.iconst 0, 1) := by decide +kernel
theorem dL_law_490 : decode cL_law 490 = .ok (.ireturn, 1) := by decide +kernel
theorem dL_law_491 : decode cL_law 491 = .ok (.goto 2246, 3) := by decide +kernel
theorem dL_law_494 : decode cL_law 494 = .ok (.aload_n 1, 1) := by decide +kernel
theorem dL_law_495 : decode cL_law 495 = .ok (.invokevirtual 162, 3) := by decide +kernel
theorem dL_law_498 : decode cL_law 498 = .ok (.aload_n 2, 1) := by decide +kernel
theorem dL_law_499 : decode cL_law 499 = .ok (.invokevirtual 165, 3) := by decide +kernel
theorem dL_law_502 : decode cL_law 502 = .ok (.if_icmp .eq 2235, 3) := by decide +kernel
theorem dL_law_505 : decode cL_law 505 = .ok (.iconst 0, 1) := by decide +kernel
theorem dL_law_506 : decode cL_law 506 = .ok (.ireturn, 1) := by decide +kernel
theorem dL_law_507 : decode cL_law 507 = .ok (.aload_n 1, 1) := by decide +kernel
theorem dL_law_508 : decode cL_law 508 = .ok (.aload_n 0, 1) := by decide +kernel
theorem dL_law_509 : decode cL_law 509 = .ok (.iload 5, 2) := by decide +kernel
theorem dL_law_511 : decode cL_law 511 = .ok (.iconst 1, 1) := by decide +kernel
theorem dL_law_512 : decode cL_law 512 = .ok (.iadd, 1) := by decide +kernel
theorem dL_law_513 : decode cL_law 513 = .ok (.iaload, 1) := by decide +kernel
theorem dL_law_514 : decode cL_law 514 = .ok (.aload_n 3, 1) := by decide +kernel
theorem dL_law_515 : decode cL_law 515 = .ok (.invokestatic 166, 3) := by decide +kernel
theorem dL_law_518 : decode cL_law 518 = .ok (.istore 6, 2) := by decide +kernel
theorem dL_law_520 : decode cL_law 520 = .ok (.aload_n 2, 1) := by decide +kernel
theorem dL_law_521 : decode cL_law 521 = .ok (.aload_n 0, 1) := by decide +kernel
theorem dL_law_522 : decode cL_law 522 = .ok (.iload 5, 2) := by decide +kernel
theorem dL_law_524 : decode cL_law 524 = .ok (.iconst 1, 1) := by decide +kernel
theorem dL_law_525 : decode cL_law 525 = .ok (.iadd, 1) := by decide +kernel
theorem dL_law_526 : decode cL_law 526 = .ok (.iaload, 1) := by decide +kernel
theorem dL_law_527 : decode cL_law 527 = .ok (.invokevirtual 169, 3) := by decide +kernel
theorem dL_law_530 : decode cL_law 530 = .ok (.istore 7, 2) := by decide +kernel
theorem dL_law_532 : decode cL_law 532 = .ok (.aload_n 2, 1) := by decide +kernel
theorem dL_law_533 : decode cL_law 533 = .ok (.invokevirtual 149, 3) := by decide +kernel
theorem dL_law_536 : decode cL_law 536 = .ok (.iload 6, 2) := by decide +kernel
theorem dL_law_538 : decode cL_law 538 = .ok (.if_icmp .eq 5, 3) := by decide +kernel
theorem dL_law_541 : decode cL_law 541 = .ok (.iconst 0, 1) := by decide +kernel
theorem dL_law_542 : decode cL_law 542 = .ok (.ireturn, 1) := by decide +kernel
theorem dL_law_543 : decode cL_law 543 = .ok (.iload 6, 2) := by decide +kernel
theorem dL_law_545 : decode cL_law 545 = .ok (.ifCond .ne 22, 3) := by decide +kernel
theorem dL_law_548 : decode cL_law 548 = .ok (.aload_n 3, 1) := by decide +kernel
theorem dL_law_549 : decode cL_law 549 = .ok (.iconst 0, 1) := by decide +kernel
theorem dL_law_550 : decode cL_law 550 = .ok (.laload, 1) := by decide +kernel
theorem dL_law_551 : decode cL_law 551 = .ok (.iload 7, 2) := by decide +kernel
theorem dL_law_553 : decode cL_law 553 = .ok (.ifCond .eq 7, 3) := by decide +kernel
theorem dL_law_556 : decode cL_law 556 = .ok (.lconst 1, 1) := by decide +kernel
theorem dL_law_557 : decode cL_law 557 = .ok (.goto 4, 3) := by decide +kernel
theorem dL_law_560 : decode cL_law 560 = .ok (.lconst 0, 1) := by decide +kernel
theorem dL_law_561 : decode cL_law 561 = .ok (.lcmp, 1) := by decide +kernel
theorem dL_law_562 : decode cL_law 562 = .ok (.ifCond .eq 5, 3) := by decide +kernel
theorem dL_law_565 : decode cL_law 565 = .ok (.iconst 0, 1) := by decide +kernel
theorem dL_law_566 : decode cL_law 566 = .ok (.ireturn, 1) := by decide +kernel
theorem dL_law_567 : decode cL_law 567 = .ok (.goto 2170, 3) := by decide +kernel
theorem dL_law_570 : decode cL_law 570 = .ok (.aload_n 1, 1) := by decide +kernel
theorem dL_law_571 : decode cL_law 571 = .ok (.invokevirtual 170, 3) := by decide +kernel
theorem dL_law_574 : decode cL_law 574 = .ok (.aload_n 2, 1) := by decide +kernel
theorem dL_law_575 : decode cL_law 575 = .ok (.invokevirtual 173, 3) := by decide +kernel
theorem dL_law_578 : decode cL_law 578 = .ok (.if_icmp .eq 2159, 3) := by decide +kernel
theorem dL_law_581 : decode cL_law 581 = .ok (.iconst 0, 1) := by decide +kernel
theorem dL_law_582 : decode cL_law 582 = .ok (.ireturn, 1) := by decide +kernel
theorem dL_law_583 : decode cL_law 583 = .ok (.aload_n 1, 1) := by decide +kernel
theorem dL_law_584 : decode cL_law 584 = .ok (.aload_n 0, 1) := by decide +kernel
theorem dL_law_585 : decode cL_law 585 = .ok (.iload 5, 2) := by decide +kernel
theorem dL_law_587 : decode cL_law 587 = .ok (.iconst 1, 1) := by decide +kernel
theorem dL_law_588 : decode cL_law 588 = .ok (.iadd, 1) := by decide +kernel
theorem dL_law_589 : decode cL_law 589 = .ok (.iaload, 1) := by decide +kernel
theorem dL_law_590 : decode cL_law 590 = .ok (.aload_n 3, 1) := by decide +kernel
theorem dL_law_591 : decode cL_law 591 = .ok (.invokestatic 174, 3) := by decide +kernel
theorem dL_law_594 : decode cL_law 594 = .ok (.istore 6, 2) := by decide +kernel
theorem dL_law_596 : decode cL_law 596 = .ok (.aload_n 2, 1) := by decide +kernel
theorem dL_law_597 : decode cL_law 597 = .ok (.aload_n 0, 1) := by decide +kernel
theorem dL_law_598 : decode cL_law 598 = .ok (.iload 5, 2) := by decide +kernel
theorem dL_law_600 : decode cL_law 600 = .ok (.iconst 1, 1) := by decide +kernel
theorem dL_law_601 : decode cL_law 601 = .ok (.iadd, 1) := by decide +kernel
theorem dL_law_602 : decode cL_law 602 = .ok (.iaload, 1) := by decide +kernel
theorem dL_law_603 : decode cL_law 603 = .ok (.invokevirtual 176, 3) := by decide +kernel
theorem dL_law_606 : decode cL_law 606 = .ok (.istore 7, 2) := by decide +kernel
theorem dL_law_608 : decode cL_law 608 = .ok (.aload_n 2, 1) := by decide +kernel
theorem dL_law_609 : decode cL_law 609 = .ok (.invokevirtual 149, 3) := by decide +kernel
theorem dL_law_612 : decode cL_law 612 = .ok (.iload 6, 2) := by decide +kernel
theorem dL_law_614 : decode cL_law 614 = .ok (.if_icmp .eq 5, 3) := by decide +kernel
theorem dL_law_617 : decode cL_law 617 = .ok (.iconst 0, 1) := by decide +kernel
theorem dL_law_618 : decode cL_law 618 = .ok (.ireturn, 1) := by decide +kernel
theorem dL_law_619 : decode cL_law 619 = .ok (.iload 6, 2) := by decide +kernel
theorem dL_law_621 : decode cL_law 621 = .ok (.ifCond .ne 22, 3) := by decide +kernel
theorem dL_law_624 : decode cL_law 624 = .ok (.aload_n 3, 1) := by decide +kernel
theorem dL_law_625 : decode cL_law 625 = .ok (.iconst 0, 1) := by decide +kernel
theorem dL_law_626 : decode cL_law 626 = .ok (.laload, 1) := by decide +kernel
theorem dL_law_627 : decode cL_law 627 = .ok (.iload 7, 2) := by decide +kernel
theorem dL_law_629 : decode cL_law 629 = .ok (.ifCond .eq 7, 3) := by decide +kernel
theorem dL_law_632 : decode cL_law 632 = .ok (.lconst 1, 1) := by decide +kernel
theorem dL_law_633 : decode cL_law 633 = .ok (.goto 4, 3) := by decide +kernel
theorem dL_law_636 : decode cL_law 636 = .ok (.lconst 0, 1) := by decide +kernel
theorem dL_law_637 : decode cL_law 637 = .ok (.lcmp, 1) := by decide +kernel
theorem dL_law_638 : decode cL_law 638 = .ok (.ifCond .eq 5, 3) := by decide +kernel
theorem dL_law_641 : decode cL_law 641 = .ok (.iconst 0, 1) := by decide +kernel
theorem dL_law_642 : decode cL_law 642 = .ok (.ireturn, 1) := by decide +kernel
theorem dL_law_643 : decode cL_law 643 = .ok (.goto 2094, 3) := by decide +kernel
theorem dL_law_646 : decode cL_law 646 = .ok (.aload_n 1, 1) := by decide +kernel
theorem dL_law_647 : decode cL_law 647 = .ok (.aload_n 0, 1) := by decide +kernel
theorem dL_law_648 : decode cL_law 648 = .ok (.iload 5, 2) := by decide +kernel
theorem dL_law_650 : decode cL_law 650 = .ok (.iconst 1, 1) := by decide +kernel
theorem dL_law_651 : decode cL_law 651 = .ok (.iadd, 1) := by decide +kernel
theorem dL_law_652 : decode cL_law 652 = .ok (.iaload, 1) := by decide +kernel
theorem dL_law_653 : decode cL_law 653 = .ok (.aload_n 3, 1) := by decide +kernel
theorem dL_law_654 : decode cL_law 654 = .ok (.invokestatic 177, 3) := by decide +kernel
theorem dL_law_657 : decode cL_law 657 = .ok (.istore 6, 2) := by decide +kernel
theorem dL_law_659 : decode cL_law 659 = .ok (.aload_n 2, 1) := by decide +kernel
theorem dL_law_660 : decode cL_law 660 = .ok (.aload_n 0, 1) := by decide +kernel
theorem dL_law_661 : decode cL_law 661 = .ok (.iload 5, 2) := by decide +kernel
theorem dL_law_663 : decode cL_law 663 = .ok (.iconst 1, 1) := by decide +kernel
theorem dL_law_664 : decode cL_law 664 = .ok (.iadd, 1) := by decide +kernel
theorem dL_law_665 : decode cL_law 665 = .ok (.iaload, 1) := by decide +kernel
theorem dL_law_666 : decode cL_law 666 = .ok (.invokevirtual 179, 3) := by decide +kernel
theorem dL_law_669 : decode cL_law 669 = .ok (.istore 7, 2) := by decide +kernel
theorem dL_law_671 : decode cL_law 671 = .ok (.aload_n 2, 1) := by decide +kernel
theorem dL_law_672 : decode cL_law 672 = .ok (.invokevirtual 149, 3) := by decide +kernel
theorem dL_law_675 : decode cL_law 675 = .ok (.iload 6, 2) := by decide +kernel
theorem dL_law_677 : decode cL_law 677 = .ok (.if_icmp .eq 5, 3) := by decide +kernel
theorem dL_law_680 : decode cL_law 680 = .ok (.iconst 0, 1) := by decide +kernel
theorem dL_law_681 : decode cL_law 681 = .ok (.ireturn, 1) := by decide +kernel
theorem dL_law_682 : decode cL_law 682 = .ok (.iload 6, 2) := by decide +kernel
theorem dL_law_684 : decode cL_law 684 = .ok (.ifCond .ne 22, 3) := by decide +kernel
theorem dL_law_687 : decode cL_law 687 = .ok (.aload_n 3, 1) := by decide +kernel
theorem dL_law_688 : decode cL_law 688 = .ok (.iconst 0, 1) := by decide +kernel
theorem dL_law_689 : decode cL_law 689 = .ok (.laload, 1) := by decide +kernel
theorem dL_law_690 : decode cL_law 690 = .ok (.iload 7, 2) := by decide +kernel
theorem dL_law_692 : decode cL_law 692 = .ok (.ifCond .eq 7, 3) := by decide +kernel
theorem dL_law_695 : decode cL_law 695 = .ok (.lconst 1, 1) := by decide +kernel
theorem dL_law_696 : decode cL_law 696 = .ok (.goto 4, 3) := by decide +kernel
theorem dL_law_699 : decode cL_law 699 = .ok (.lconst 0, 1) := by decide +kernel
theorem dL_law_700 : decode cL_law 700 = .ok (.lcmp, 1) := by decide +kernel
theorem dL_law_701 : decode cL_law 701 = .ok (.ifCond .eq 5, 3) := by decide +kernel
theorem dL_law_704 : decode cL_law 704 = .ok (.iconst 0, 1) := by decide +kernel
theorem dL_law_705 : decode cL_law 705 = .ok (.ireturn, 1) := by decide +kernel
theorem dL_law_706 : decode cL_law 706 = .ok (.goto 2031, 3) := by decide +kernel
theorem dL_law_709 : decode cL_law 709 = .ok (.aload_n 1, 1) := by decide +kernel
theorem dL_law_710 : decode cL_law 710 = .ok (.invokevirtual 180, 3) := by decide +kernel
theorem dL_law_713 : decode cL_law 713 = .ok (.aload_n 2, 1) := by decide +kernel
theorem dL_law_714 : decode cL_law 714 = .ok (.invokevirtual 183, 3) := by decide +kernel
theorem dL_law_717 : decode cL_law 717 = .ok (.if_icmp .eq 2020, 3) := by decide +kernel
theorem dL_law_720 : decode cL_law 720 = .ok (.iconst 0, 1) := by decide +kernel
theorem dL_law_721 : decode cL_law 721 = .ok (.ireturn, 1) := by decide +kernel
theorem dL_law_722 : decode cL_law 722 = .ok (.aload_n 1, 1) := by decide +kernel
theorem dL_law_723 : decode cL_law 723 = .ok (.invokevirtual 184, 3) := by decide +kernel
theorem dL_law_726 : decode cL_law 726 = .ok (.aload_n 2, 1) := by decide +kernel
theorem dL_law_727 : decode cL_law 727 = .ok (.invokevirtual 188, 3) := by decide +kernel
theorem dL_law_730 : decode cL_law 730 = .ok (.if_icmp .eq 2007, 3) := by decide +kernel
theorem dL_law_733 : decode cL_law 733 = .ok (.iconst 0, 1) := by decide +kernel
theorem dL_law_734 : decode cL_law 734 = .ok (.ireturn, 1) := by decide +kernel
theorem dL_law_735 : decode cL_law 735 = .ok (.aload_n 1, 1) := by decide +kernel
theorem dL_law_736 : decode cL_law 736 = .ok (.aload_n 0, 1) := by decide +kernel
theorem dL_law_737 : decode cL_law 737 = .ok (.iload 5, 2) := by decide +kernel
theorem dL_law_739 : decode cL_law 739 = .ok (.iconst 1, 1) := by decide +kernel
theorem dL_law_740 : decode cL_law 740 = .ok (.iadd, 1) := by decide +kernel
theorem dL_law_741 : decode cL_law 741 = .ok (.iaload, 1) := by decide +kernel
theorem dL_law_742 : decode cL_law 742 = .ok (.aload_n 3, 1) := by decide +kernel
theorem dL_law_743 : decode cL_law 743 = .ok (.invokestatic 189, 3) := by decide +kernel
theorem dL_law_746 : decode cL_law 746 = .ok (.istore 6, 2) := by decide +kernel
theorem dL_law_748 : decode cL_law 748 = .ok (.aload_n 2, 1) := by decide +kernel
theorem dL_law_749 : decode cL_law 749 = .ok (.aload_n 0, 1) := by decide +kernel
theorem dL_law_750 : decode cL_law 750 = .ok (.iload 5, 2) := by decide +kernel
theorem dL_law_752 : decode cL_law 752 = .ok (.iconst 1, 1) := by decide +kernel
theorem dL_law_753 : decode cL_law 753 = .ok (.iadd, 1) := by decide +kernel
theorem dL_law_754 : decode cL_law 754 = .ok (.iaload, 1) := by decide +kernel
theorem dL_law_755 : decode cL_law 755 = .ok (.invokevirtual 191, 3) := by decide +kernel
theorem dL_law_758 : decode cL_law 758 = .ok (.istore 7, 2) := by decide +kernel
theorem dL_law_760 : decode cL_law 760 = .ok (.aload_n 2, 1) := by decide +kernel
theorem dL_law_761 : decode cL_law 761 = .ok (.invokevirtual 149, 3) := by decide +kernel
theorem dL_law_764 : decode cL_law 764 = .ok (.iload 6, 2) := by decide +kernel
theorem dL_law_766 : decode cL_law 766 = .ok (.if_icmp .eq 5, 3) := by decide +kernel
theorem dL_law_769 : decode cL_law 769 = .ok (.iconst 0, 1) := by decide +kernel
theorem dL_law_770 : decode cL_law 770 = .ok (.ireturn, 1) := by decide +kernel
theorem dL_law_771 : decode cL_law 771 = .ok (.iload 6, 2) := by decide +kernel
theorem dL_law_773 : decode cL_law 773 = .ok (.ifCond .ne 15, 3) := by decide +kernel
theorem dL_law_776 : decode cL_law 776 = .ok (.aload_n 3, 1) := by decide +kernel
theorem dL_law_777 : decode cL_law 777 = .ok (.iconst 0, 1) := by decide +kernel
theorem dL_law_778 : decode cL_law 778 = .ok (.laload, 1) := by decide +kernel
theorem dL_law_779 : decode cL_law 779 = .ok (.iload 7, 2) := by decide +kernel
theorem dL_law_781 : decode cL_law 781 = .ok (.i2l, 1) := by decide +kernel
theorem dL_law_782 : decode cL_law 782 = .ok (.lcmp, 1) := by decide +kernel
theorem dL_law_783 : decode cL_law 783 = .ok (.ifCond .eq 5, 3) := by decide +kernel
theorem dL_law_786 : decode cL_law 786 = .ok (.iconst 0, 1) := by decide +kernel
theorem dL_law_787 : decode cL_law 787 = .ok (.ireturn, 1) := by decide +kernel
theorem dL_law_788 : decode cL_law 788 = .ok (.goto 1949, 3) := by decide +kernel
theorem dL_law_791 : decode cL_law 791 = .ok (.aload_n 1, 1) := by decide +kernel
theorem dL_law_792 : decode cL_law 792 = .ok (.aload_n 0, 1) := by decide +kernel
theorem dL_law_793 : decode cL_law 793 = .ok (.iload 5, 2) := by decide +kernel
theorem dL_law_795 : decode cL_law 795 = .ok (.iconst 1, 1) := by decide +kernel
theorem dL_law_796 : decode cL_law 796 = .ok (.iadd, 1) := by decide +kernel
theorem dL_law_797 : decode cL_law 797 = .ok (.iaload, 1) := by decide +kernel
theorem dL_law_798 : decode cL_law 798 = .ok (.aload_n 3, 1) := by decide +kernel
theorem dL_law_799 : decode cL_law 799 = .ok (.invokestatic 192, 3) := by decide +kernel
theorem dL_law_802 : decode cL_law 802 = .ok (.istore 6, 2) := by decide +kernel
theorem dL_law_804 : decode cL_law 804 = .ok (.aload_n 2, 1) := by decide +kernel
theorem dL_law_805 : decode cL_law 805 = .ok (.aload_n 0, 1) := by decide +kernel
theorem dL_law_806 : decode cL_law 806 = .ok (.iload 5, 2) := by decide +kernel
theorem dL_law_808 : decode cL_law 808 = .ok (.iconst 1, 1) := by decide +kernel
theorem dL_law_809 : decode cL_law 809 = .ok (.iadd, 1) := by decide +kernel
theorem dL_law_810 : decode cL_law 810 = .ok (.iaload, 1) := by decide +kernel
theorem dL_law_811 : decode cL_law 811 = .ok (.invokevirtual 194, 3) := by decide +kernel
theorem dL_law_814 : decode cL_law 814 = .ok (.istore 7, 2) := by decide +kernel
theorem dL_law_816 : decode cL_law 816 = .ok (.aload_n 2, 1) := by decide +kernel
theorem dL_law_817 : decode cL_law 817 = .ok (.invokevirtual 149, 3) := by decide +kernel
theorem dL_law_820 : decode cL_law 820 = .ok (.iload 6, 2) := by decide +kernel
theorem dL_law_822 : decode cL_law 822 = .ok (.if_icmp .eq 5, 3) := by decide +kernel
theorem dL_law_825 : decode cL_law 825 = .ok (.iconst 0, 1) := by decide +kernel
theorem dL_law_826 : decode cL_law 826 = .ok (.ireturn, 1) := by decide +kernel
theorem dL_law_827 : decode cL_law 827 = .ok (.iload 6, 2) := by decide +kernel
theorem dL_law_829 : decode cL_law 829 = .ok (.ifCond .ne 15, 3) := by decide +kernel
theorem dL_law_832 : decode cL_law 832 = .ok (.aload_n 3, 1) := by decide +kernel
theorem dL_law_833 : decode cL_law 833 = .ok (.iconst 0, 1) := by decide +kernel
theorem dL_law_834 : decode cL_law 834 = .ok (.laload, 1) := by decide +kernel
theorem dL_law_835 : decode cL_law 835 = .ok (.iload 7, 2) := by decide +kernel
theorem dL_law_837 : decode cL_law 837 = .ok (.i2l, 1) := by decide +kernel
theorem dL_law_838 : decode cL_law 838 = .ok (.lcmp, 1) := by decide +kernel
theorem dL_law_839 : decode cL_law 839 = .ok (.ifCond .eq 5, 3) := by decide +kernel
theorem dL_law_842 : decode cL_law 842 = .ok (.iconst 0, 1) := by decide +kernel
theorem dL_law_843 : decode cL_law 843 = .ok (.ireturn, 1) := by decide +kernel
theorem dL_law_844 : decode cL_law 844 = .ok (.goto 1893, 3) := by decide +kernel
theorem dL_law_847 : decode cL_law 847 = .ok (.aload_n 1, 1) := by decide +kernel
theorem dL_law_848 : decode cL_law 848 = .ok (.aload_n 0, 1) := by decide +kernel
theorem dL_law_849 : decode cL_law 849 = .ok (.iload 5, 2) := by decide +kernel
theorem dL_law_851 : decode cL_law 851 = .ok (.iconst 1, 1) := by decide +kernel
theorem dL_law_852 : decode cL_law 852 = .ok (.iadd, 1) := by decide +kernel
theorem dL_law_853 : decode cL_law 853 = .ok (.iaload, 1) := by decide +kernel
theorem dL_law_854 : decode cL_law 854 = .ok (.aload_n 3, 1) := by decide +kernel
theorem dL_law_855 : decode cL_law 855 = .ok (.invokestatic 195, 3) := by decide +kernel
theorem dL_law_858 : decode cL_law 858 = .ok (.istore 6, 2) := by decide +kernel
theorem dL_law_860 : decode cL_law 860 = .ok (.aload_n 2, 1) := by decide +kernel
theorem dL_law_861 : decode cL_law 861 = .ok (.aload_n 0, 1) := by decide +kernel
theorem dL_law_862 : decode cL_law 862 = .ok (.iload 5, 2) := by decide +kernel
theorem dL_law_864 : decode cL_law 864 = .ok (.iconst 1, 1) := by decide +kernel
theorem dL_law_865 : decode cL_law 865 = .ok (.iadd, 1) := by decide +kernel
theorem dL_law_866 : decode cL_law 866 = .ok (.iaload, 1) := by decide +kernel
theorem dL_law_867 : decode cL_law 867 = .ok (.invokevirtual 197, 3) := by decide +kernel
theorem dL_law_870 : decode cL_law 870 = .ok (.istore 7, 2) := by decide +kernel
theorem dL_law_872 : decode cL_law 872 = .ok (.aload_n 2, 1) := by decide +kernel
theorem dL_law_873 : decode cL_law 873 = .ok (.invokevirtual 149, 3) := by decide +kernel
theorem dL_law_876 : decode cL_law 876 = .ok (.iload 6, 2) := by decide +kernel
theorem dL_law_878 : decode cL_law 878 = .ok (.if_icmp .eq 5, 3) := by decide +kernel
theorem dL_law_881 : decode cL_law 881 = .ok (.iconst 0, 1) := by decide +kernel
theorem dL_law_882 : decode cL_law 882 = .ok (.ireturn, 1) := by decide +kernel
theorem dL_law_883 : decode cL_law 883 = .ok (.iload 6, 2) := by decide +kernel
theorem dL_law_885 : decode cL_law 885 = .ok (.ifCond .ne 15, 3) := by decide +kernel
theorem dL_law_888 : decode cL_law 888 = .ok (.aload_n 3, 1) := by decide +kernel
theorem dL_law_889 : decode cL_law 889 = .ok (.iconst 0, 1) := by decide +kernel
theorem dL_law_890 : decode cL_law 890 = .ok (.laload, 1) := by decide +kernel
theorem dL_law_891 : decode cL_law 891 = .ok (.iload 7, 2) := by decide +kernel
theorem dL_law_893 : decode cL_law 893 = .ok (.i2l, 1) := by decide +kernel
theorem dL_law_894 : decode cL_law 894 = .ok (.lcmp, 1) := by decide +kernel
theorem dL_law_895 : decode cL_law 895 = .ok (.ifCond .eq 5, 3) := by decide +kernel
theorem dL_law_898 : decode cL_law 898 = .ok (.iconst 0, 1) := by decide +kernel
theorem dL_law_899 : decode cL_law 899 = .ok (.ireturn, 1) := by decide +kernel
theorem dL_law_900 : decode cL_law 900 = .ok (.goto 1837, 3) := by decide +kernel
theorem dL_law_903 : decode cL_law 903 = .ok (.aload_n 1, 1) := by decide +kernel
theorem dL_law_904 : decode cL_law 904 = .ok (.aload_n 3, 1) := by decide +kernel
theorem dL_law_905 : decode cL_law 905 = .ok (.invokestatic 198, 3) := by decide +kernel
theorem dL_law_908 : decode cL_law 908 = .ok (.istore 6, 2) := by decide +kernel
theorem dL_law_910 : decode cL_law 910 = .ok (.aload_n 2, 1) := by decide +kernel
theorem dL_law_911 : decode cL_law 911 = .ok (.invokevirtual 200, 3) := by decide +kernel
theorem dL_law_914 : decode cL_law 914 = .ok (.istore 7, 2) := by decide +kernel
theorem dL_law_916 : decode cL_law 916 = .ok (.aload_n 2, 1) := by decide +kernel
theorem dL_law_917 : decode cL_law 917 = .ok (.invokevirtual 149, 3) := by decide +kernel
theorem dL_law_920 : decode cL_law 920 = .ok (.iload 6, 2) := by decide +kernel
theorem dL_law_922 : decode cL_law 922 = .ok (.if_icmp .eq 5, 3) := by decide +kernel
theorem dL_law_925 : decode cL_law 925 = .ok (.iconst 0, 1) := by decide +kernel
theorem dL_law_926 : decode cL_law 926 = .ok (.ireturn, 1) := by decide +kernel
theorem dL_law_927 : decode cL_law 927 = .ok (.iload 6, 2) := by decide +kernel
theorem dL_law_929 : decode cL_law 929 = .ok (.ifCond .ne 15, 3) := by decide +kernel
theorem dL_law_932 : decode cL_law 932 = .ok (.aload_n 3, 1) := by decide +kernel
theorem dL_law_933 : decode cL_law 933 = .ok (.iconst 0, 1) := by decide +kernel
theorem dL_law_934 : decode cL_law 934 = .ok (.laload, 1) := by decide +kernel
theorem dL_law_935 : decode cL_law 935 = .ok (.iload 7, 2) := by decide +kernel
theorem dL_law_937 : decode cL_law 937 = .ok (.i2l, 1) := by decide +kernel
theorem dL_law_938 : decode cL_law 938 = .ok (.lcmp, 1) := by decide +kernel
theorem dL_law_939 : decode cL_law 939 = .ok (.ifCond .eq 5, 3) := by decide +kernel
theorem dL_law_942 : decode cL_law 942 = .ok (.iconst 0, 1) := by decide +kernel
theorem dL_law_943 : decode cL_law 943 = .ok (.ireturn, 1) := by decide +kernel
theorem dL_law_944 : decode cL_law 944 = .ok (.goto 1793, 3) := by decide +kernel
theorem dL_law_947 : decode cL_law 947 = .ok (.aload_n 1, 1) := by decide +kernel
theorem dL_law_948 : decode cL_law 948 = .ok (.aload_n 0, 1) := by decide +kernel
theorem dL_law_949 : decode cL_law 949 = .ok (.iload 5, 2) := by decide +kernel
theorem dL_law_951 : decode cL_law 951 = .ok (.iconst 1, 1) := by decide +kernel
theorem dL_law_952 : decode cL_law 952 = .ok (.iadd, 1) := by decide +kernel
theorem dL_law_953 : decode cL_law 953 = .ok (.iaload, 1) := by decide +kernel
theorem dL_law_954 : decode cL_law 954 = .ok (.aload_n 0, 1) := by decide +kernel
theorem dL_law_955 : decode cL_law 955 = .ok (.iload 5, 2) := by decide +kernel
theorem dL_law_957 : decode cL_law 957 = .ok (.iconst 2, 1) := by decide +kernel
theorem dL_law_958 : decode cL_law 958 = .ok (.iadd, 1) := by decide +kernel
theorem dL_law_959 : decode cL_law 959 = .ok (.iaload, 1) := by decide +kernel
theorem dL_law_960 : decode cL_law 960 = .ok (.aload_n 0, 1) := by decide +kernel
theorem dL_law_961 : decode cL_law 961 = .ok (.iload 5, 2) := by decide +kernel
theorem dL_law_963 : decode cL_law 963 = .ok (.iconst 3, 1) := by decide +kernel
theorem dL_law_964 : decode cL_law 964 = .ok (.iadd, 1) := by decide +kernel
theorem dL_law_965 : decode cL_law 965 = .ok (.iaload, 1) := by decide +kernel
theorem dL_law_966 : decode cL_law 966 = .ok (.aload_n 3, 1) := by decide +kernel
theorem dL_law_967 : decode cL_law 967 = .ok (.invokestatic 201, 3) := by decide +kernel
theorem dL_law_970 : decode cL_law 970 = .ok (.istore 6, 2) := by decide +kernel
theorem dL_law_972 : decode cL_law 972 = .ok (.aload_n 2, 1) := by decide +kernel
theorem dL_law_973 : decode cL_law 973 = .ok (.aload_n 0, 1) := by decide +kernel
theorem dL_law_974 : decode cL_law 974 = .ok (.iload 5, 2) := by decide +kernel
theorem dL_law_976 : decode cL_law 976 = .ok (.iconst 1, 1) := by decide +kernel
theorem dL_law_977 : decode cL_law 977 = .ok (.iadd, 1) := by decide +kernel
theorem dL_law_978 : decode cL_law 978 = .ok (.iaload, 1) := by decide +kernel
theorem dL_law_979 : decode cL_law 979 = .ok (.aload_n 0, 1) := by decide +kernel
theorem dL_law_980 : decode cL_law 980 = .ok (.iload 5, 2) := by decide +kernel
theorem dL_law_982 : decode cL_law 982 = .ok (.iconst 2, 1) := by decide +kernel
theorem dL_law_983 : decode cL_law 983 = .ok (.iadd, 1) := by decide +kernel
theorem dL_law_984 : decode cL_law 984 = .ok (.iaload, 1) := by decide +kernel
theorem dL_law_985 : decode cL_law 985 = .ok (.aload_n 0, 1) := by decide +kernel
theorem dL_law_986 : decode cL_law 986 = .ok (.iload 5, 2) := by decide +kernel
theorem dL_law_988 : decode cL_law 988 = .ok (.iconst 3, 1) := by decide +kernel
theorem dL_law_989 : decode cL_law 989 = .ok (.iadd, 1) := by decide +kernel
theorem dL_law_990 : decode cL_law 990 = .ok (.iaload, 1) := by decide +kernel
theorem dL_law_991 : decode cL_law 991 = .ok (.invokevirtual 204, 3) := by decide +kernel
theorem dL_law_994 : decode cL_law 994 = .ok (.istore 7, 2) := by decide +kernel
theorem dL_law_996 : decode cL_law 996 = .ok (.aload_n 2, 1) := by decide +kernel
theorem dL_law_997 : decode cL_law 997 = .ok (.invokevirtual 149, 3) := by decide +kernel
theorem dL_law_1000 : decode cL_law 1000 = .ok (.iload 6, 2) := by decide +kernel
theorem dL_law_1002 : decode cL_law 1002 = .ok (.if_icmp .eq 5, 3) := by decide +kernel
theorem dL_law_1005 : decode cL_law 1005 = .ok (.iconst 0, 1) := by decide +kernel
theorem dL_law_1006 : decode cL_law 1006 = .ok (.ireturn, 1) := by decide +kernel
theorem dL_law_1007 : decode cL_law 1007 = .ok (.iload 6, 2) := by decide +kernel
theorem dL_law_1009 : decode cL_law 1009 = .ok (.ifCond .ne 15, 3) := by decide +kernel
theorem dL_law_1012 : decode cL_law 1012 = .ok (.aload_n 3, 1) := by decide +kernel
theorem dL_law_1013 : decode cL_law 1013 = .ok (.iconst 0, 1) := by decide +kernel
theorem dL_law_1014 : decode cL_law 1014 = .ok (.laload, 1) := by decide +kernel
theorem dL_law_1015 : decode cL_law 1015 = .ok (.iload 7, 2) := by decide +kernel
theorem dL_law_1017 : decode cL_law 1017 = .ok (.i2l, 1) := by decide +kernel
theorem dL_law_1018 : decode cL_law 1018 = .ok (.lcmp, 1) := by decide +kernel
theorem dL_law_1019 : decode cL_law 1019 = .ok (.ifCond .eq 5, 3) := by decide +kernel
theorem dL_law_1022 : decode cL_law 1022 = .ok (.iconst 0, 1) := by decide +kernel
theorem dL_law_1023 : decode cL_law 1023 = .ok (.ireturn, 1) := by decide +kernel
theorem dL_law_1024 : decode cL_law 1024 = .ok (.goto 1713, 3) := by decide +kernel
theorem dL_law_1027 : decode cL_law 1027 = .ok (.aload_n 1, 1) := by decide +kernel
theorem dL_law_1028 : decode cL_law 1028 = .ok (.aload_n 0, 1) := by decide +kernel
theorem dL_law_1029 : decode cL_law 1029 = .ok (.iload 5, 2) := by decide +kernel
theorem dL_law_1031 : decode cL_law 1031 = .ok (.iconst 1, 1) := by decide +kernel
theorem dL_law_1032 : decode cL_law 1032 = .ok (.iadd, 1) := by decide +kernel
theorem dL_law_1033 : decode cL_law 1033 = .ok (.iaload, 1) := by decide +kernel
theorem dL_law_1034 : decode cL_law 1034 = .ok (.aload_n 3, 1) := by decide +kernel
theorem dL_law_1035 : decode cL_law 1035 = .ok (.invokestatic 205, 3) := by decide +kernel
theorem dL_law_1038 : decode cL_law 1038 = .ok (.istore 6, 2) := by decide +kernel
theorem dL_law_1040 : decode cL_law 1040 = .ok (.aload_n 2, 1) := by decide +kernel
theorem dL_law_1041 : decode cL_law 1041 = .ok (.aload_n 0, 1) := by decide +kernel
theorem dL_law_1042 : decode cL_law 1042 = .ok (.iload 5, 2) := by decide +kernel
theorem dL_law_1044 : decode cL_law 1044 = .ok (.iconst 1, 1) := by decide +kernel
theorem dL_law_1045 : decode cL_law 1045 = .ok (.iadd, 1) := by decide +kernel
theorem dL_law_1046 : decode cL_law 1046 = .ok (.iaload, 1) := by decide +kernel
theorem dL_law_1047 : decode cL_law 1047 = .ok (.invokevirtual 207, 3) := by decide +kernel
theorem dL_law_1050 : decode cL_law 1050 = .ok (.istore 7, 2) := by decide +kernel
theorem dL_law_1052 : decode cL_law 1052 = .ok (.aload_n 2, 1) := by decide +kernel
theorem dL_law_1053 : decode cL_law 1053 = .ok (.invokevirtual 149, 3) := by decide +kernel
theorem dL_law_1056 : decode cL_law 1056 = .ok (.iload 6, 2) := by decide +kernel
theorem dL_law_1058 : decode cL_law 1058 = .ok (.if_icmp .eq 5, 3) := by decide +kernel
theorem dL_law_1061 : decode cL_law 1061 = .ok (.iconst 0, 1) := by decide +kernel
theorem dL_law_1062 : decode cL_law 1062 = .ok (.ireturn, 1) := by decide +kernel
theorem dL_law_1063 : decode cL_law 1063 = .ok (.iload 6, 2) := by decide +kernel
theorem dL_law_1065 : decode cL_law 1065 = .ok (.ifCond .ne 15, 3) := by decide +kernel
theorem dL_law_1068 : decode cL_law 1068 = .ok (.aload_n 3, 1) := by decide +kernel
theorem dL_law_1069 : decode cL_law 1069 = .ok (.iconst 0, 1) := by decide +kernel
theorem dL_law_1070 : decode cL_law 1070 = .ok (.laload, 1) := by decide +kernel
theorem dL_law_1071 : decode cL_law 1071 = .ok (.iload 7, 2) := by decide +kernel
theorem dL_law_1073 : decode cL_law 1073 = .ok (.i2l, 1) := by decide +kernel
theorem dL_law_1074 : decode cL_law 1074 = .ok (.lcmp, 1) := by decide +kernel
theorem dL_law_1075 : decode cL_law 1075 = .ok (.ifCond .eq 5, 3) := by decide +kernel
theorem dL_law_1078 : decode cL_law 1078 = .ok (.iconst 0, 1) := by decide +kernel
theorem dL_law_1079 : decode cL_law 1079 = .ok (.ireturn, 1) := by decide +kernel
theorem dL_law_1080 : decode cL_law 1080 = .ok (.goto 1657, 3) := by decide +kernel
theorem dL_law_1083 : decode cL_law 1083 = .ok (.aload_n 1, 1) := by decide +kernel
theorem dL_law_1084 : decode cL_law 1084 = .ok (.aload_n 0, 1) := by decide +kernel
theorem dL_law_1085 : decode cL_law 1085 = .ok (.iload 5, 2) := by decide +kernel
theorem dL_law_1087 : decode cL_law 1087 = .ok (.iconst 1, 1) := by decide +kernel
theorem dL_law_1088 : decode cL_law 1088 = .ok (.iadd, 1) := by decide +kernel
theorem dL_law_1089 : decode cL_law 1089 = .ok (.iaload, 1) := by decide +kernel
theorem dL_law_1090 : decode cL_law 1090 = .ok (.aload_n 3, 1) := by decide +kernel
theorem dL_law_1091 : decode cL_law 1091 = .ok (.invokestatic 208, 3) := by decide +kernel
theorem dL_law_1094 : decode cL_law 1094 = .ok (.istore 6, 2) := by decide +kernel
theorem dL_law_1096 : decode cL_law 1096 = .ok (.aload_n 2, 1) := by decide +kernel
theorem dL_law_1097 : decode cL_law 1097 = .ok (.aload_n 0, 1) := by decide +kernel
theorem dL_law_1098 : decode cL_law 1098 = .ok (.iload 5, 2) := by decide +kernel
theorem dL_law_1100 : decode cL_law 1100 = .ok (.iconst 1, 1) := by decide +kernel
theorem dL_law_1101 : decode cL_law 1101 = .ok (.iadd, 1) := by decide +kernel
theorem dL_law_1102 : decode cL_law 1102 = .ok (.iaload, 1) := by decide +kernel
theorem dL_law_1103 : decode cL_law 1103 = .ok (.invokevirtual 210, 3) := by decide +kernel
theorem dL_law_1106 : decode cL_law 1106 = .ok (.istore 7, 2) := by decide +kernel
theorem dL_law_1108 : decode cL_law 1108 = .ok (.aload_n 2, 1) := by decide +kernel
theorem dL_law_1109 : decode cL_law 1109 = .ok (.invokevirtual 149, 3) := by decide +kernel
theorem dL_law_1112 : decode cL_law 1112 = .ok (.iload 6, 2) := by decide +kernel
theorem dL_law_1114 : decode cL_law 1114 = .ok (.if_icmp .eq 5, 3) := by decide +kernel
theorem dL_law_1117 : decode cL_law 1117 = .ok (.iconst 0, 1) := by decide +kernel
theorem dL_law_1118 : decode cL_law 1118 = .ok (.ireturn, 1) := by decide +kernel
theorem dL_law_1119 : decode cL_law 1119 = .ok (.iload 6, 2) := by decide +kernel
theorem dL_law_1121 : decode cL_law 1121 = .ok (.ifCond .ne 15, 3) := by decide +kernel
theorem dL_law_1124 : decode cL_law 1124 = .ok (.aload_n 3, 1) := by decide +kernel
theorem dL_law_1125 : decode cL_law 1125 = .ok (.iconst 0, 1) := by decide +kernel
theorem dL_law_1126 : decode cL_law 1126 = .ok (.laload, 1) := by decide +kernel
theorem dL_law_1127 : decode cL_law 1127 = .ok (.iload 7, 2) := by decide +kernel
theorem dL_law_1129 : decode cL_law 1129 = .ok (.i2l, 1) := by decide +kernel
theorem dL_law_1130 : decode cL_law 1130 = .ok (.lcmp, 1) := by decide +kernel
theorem dL_law_1131 : decode cL_law 1131 = .ok (.ifCond .eq 5, 3) := by decide +kernel
theorem dL_law_1134 : decode cL_law 1134 = .ok (.iconst 0, 1) := by decide +kernel
theorem dL_law_1135 : decode cL_law 1135 = .ok (.ireturn, 1) := by decide +kernel
theorem dL_law_1136 : decode cL_law 1136 = .ok (.goto 1601, 3) := by decide +kernel
theorem dL_law_1139 : decode cL_law 1139 = .ok (.aload_n 1, 1) := by decide +kernel
theorem dL_law_1140 : decode cL_law 1140 = .ok (.aload_n 0, 1) := by decide +kernel
theorem dL_law_1141 : decode cL_law 1141 = .ok (.iload 5, 2) := by decide +kernel
theorem dL_law_1143 : decode cL_law 1143 = .ok (.iconst 1, 1) := by decide +kernel
theorem dL_law_1144 : decode cL_law 1144 = .ok (.iadd, 1) := by decide +kernel
theorem dL_law_1145 : decode cL_law 1145 = .ok (.iaload, 1) := by decide +kernel
theorem dL_law_1146 : decode cL_law 1146 = .ok (.aload_n 3, 1) := by decide +kernel
theorem dL_law_1147 : decode cL_law 1147 = .ok (.invokestatic 211, 3) := by decide +kernel
theorem dL_law_1150 : decode cL_law 1150 = .ok (.istore 6, 2) := by decide +kernel
theorem dL_law_1152 : decode cL_law 1152 = .ok (.aload_n 2, 1) := by decide +kernel
theorem dL_law_1153 : decode cL_law 1153 = .ok (.aload_n 0, 1) := by decide +kernel
theorem dL_law_1154 : decode cL_law 1154 = .ok (.iload 5, 2) := by decide +kernel
theorem dL_law_1156 : decode cL_law 1156 = .ok (.iconst 1, 1) := by decide +kernel
theorem dL_law_1157 : decode cL_law 1157 = .ok (.iadd, 1) := by decide +kernel
theorem dL_law_1158 : decode cL_law 1158 = .ok (.iaload, 1) := by decide +kernel
theorem dL_law_1159 : decode cL_law 1159 = .ok (.invokevirtual 213, 3) := by decide +kernel
theorem dL_law_1162 : decode cL_law 1162 = .ok (.istore 7, 2) := by decide +kernel
theorem dL_law_1164 : decode cL_law 1164 = .ok (.aload_n 2, 1) := by decide +kernel
theorem dL_law_1165 : decode cL_law 1165 = .ok (.invokevirtual 149, 3) := by decide +kernel
theorem dL_law_1168 : decode cL_law 1168 = .ok (.iload 6, 2) := by decide +kernel
theorem dL_law_1170 : decode cL_law 1170 = .ok (.if_icmp .eq 5, 3) := by decide +kernel
theorem dL_law_1173 : decode cL_law 1173 = .ok (.iconst 0, 1) := by decide +kernel
theorem dL_law_1174 : decode cL_law 1174 = .ok (.ireturn, 1) := by decide +kernel
theorem dL_law_1175 : decode cL_law 1175 = .ok (.iload 6, 2) := by decide +kernel
theorem dL_law_1177 : decode cL_law 1177 = .ok (.ifCond .ne 15, 3) := by decide +kernel
theorem dL_law_1180 : decode cL_law 1180 = .ok (.aload_n 3, 1) := by decide +kernel
theorem dL_law_1181 : decode cL_law 1181 = .ok (.iconst 0, 1) := by decide +kernel
theorem dL_law_1182 : decode cL_law 1182 = .ok (.laload, 1) := by decide +kernel
theorem dL_law_1183 : decode cL_law 1183 = .ok (.iload 7, 2) := by decide +kernel
theorem dL_law_1185 : decode cL_law 1185 = .ok (.i2l, 1) := by decide +kernel
theorem dL_law_1186 : decode cL_law 1186 = .ok (.lcmp, 1) := by decide +kernel
theorem dL_law_1187 : decode cL_law 1187 = .ok (.ifCond .eq 5, 3) := by decide +kernel
theorem dL_law_1190 : decode cL_law 1190 = .ok (.iconst 0, 1) := by decide +kernel
theorem dL_law_1191 : decode cL_law 1191 = .ok (.ireturn, 1) := by decide +kernel
theorem dL_law_1192 : decode cL_law 1192 = .ok (.goto 1545, 3) := by decide +kernel
theorem dL_law_1195 : decode cL_law 1195 = .ok (.aload_n 1, 1) := by decide +kernel
theorem dL_law_1196 : decode cL_law 1196 = .ok (.aload_n 0, 1) := by decide +kernel
theorem dL_law_1197 : decode cL_law 1197 = .ok (.iload 5, 2) := by decide +kernel
theorem dL_law_1199 : decode cL_law 1199 = .ok (.iconst 1, 1) := by decide +kernel
theorem dL_law_1200 : decode cL_law 1200 = .ok (.iadd, 1) := by decide +kernel
theorem dL_law_1201 : decode cL_law 1201 = .ok (.iaload, 1) := by decide +kernel
theorem dL_law_1202 : decode cL_law 1202 = .ok (.aload_n 0, 1) := by decide +kernel
theorem dL_law_1203 : decode cL_law 1203 = .ok (.iload 5, 2) := by decide +kernel
theorem dL_law_1205 : decode cL_law 1205 = .ok (.iconst 2, 1) := by decide +kernel
theorem dL_law_1206 : decode cL_law 1206 = .ok (.iadd, 1) := by decide +kernel
theorem dL_law_1207 : decode cL_law 1207 = .ok (.iaload, 1) := by decide +kernel
theorem dL_law_1208 : decode cL_law 1208 = .ok (.aload_n 3, 1) := by decide +kernel
theorem dL_law_1209 : decode cL_law 1209 = .ok (.invokestatic 214, 3) := by decide +kernel
theorem dL_law_1212 : decode cL_law 1212 = .ok (.istore 6, 2) := by decide +kernel
theorem dL_law_1214 : decode cL_law 1214 = .ok (.aload_n 2, 1) := by decide +kernel
theorem dL_law_1215 : decode cL_law 1215 = .ok (.aload_n 0, 1) := by decide +kernel
theorem dL_law_1216 : decode cL_law 1216 = .ok (.iload 5, 2) := by decide +kernel
theorem dL_law_1218 : decode cL_law 1218 = .ok (.iconst 1, 1) := by decide +kernel
theorem dL_law_1219 : decode cL_law 1219 = .ok (.iadd, 1) := by decide +kernel
theorem dL_law_1220 : decode cL_law 1220 = .ok (.iaload, 1) := by decide +kernel
theorem dL_law_1221 : decode cL_law 1221 = .ok (.aload_n 0, 1) := by decide +kernel
theorem dL_law_1222 : decode cL_law 1222 = .ok (.iload 5, 2) := by decide +kernel
theorem dL_law_1224 : decode cL_law 1224 = .ok (.iconst 2, 1) := by decide +kernel
theorem dL_law_1225 : decode cL_law 1225 = .ok (.iadd, 1) := by decide +kernel
theorem dL_law_1226 : decode cL_law 1226 = .ok (.iaload, 1) := by decide +kernel
theorem dL_law_1227 : decode cL_law 1227 = .ok (.invokevirtual 216, 3) := by decide +kernel
theorem dL_law_1230 : decode cL_law 1230 = .ok (.istore 7, 2) := by decide +kernel
theorem dL_law_1232 : decode cL_law 1232 = .ok (.aload_n 2, 1) := by decide +kernel
theorem dL_law_1233 : decode cL_law 1233 = .ok (.invokevirtual 149, 3) := by decide +kernel
theorem dL_law_1236 : decode cL_law 1236 = .ok (.iload 6, 2) := by decide +kernel
theorem dL_law_1238 : decode cL_law 1238 = .ok (.if_icmp .eq 5, 3) := by decide +kernel
theorem dL_law_1241 : decode cL_law 1241 = .ok (.iconst 0, 1) := by decide +kernel
theorem dL_law_1242 : decode cL_law 1242 = .ok (.ireturn, 1) := by decide +kernel
theorem dL_law_1243 : decode cL_law 1243 = .ok (.iload 6, 2) := by decide +kernel
theorem dL_law_1245 : decode cL_law 1245 = .ok (.ifCond .ne 15, 3) := by decide +kernel
theorem dL_law_1248 : decode cL_law 1248 = .ok (.aload_n 3, 1) := by decide +kernel
theorem dL_law_1249 : decode cL_law 1249 = .ok (.iconst 0, 1) := by decide +kernel
theorem dL_law_1250 : decode cL_law 1250 = .ok (.laload, 1) := by decide +kernel
theorem dL_law_1251 : decode cL_law 1251 = .ok (.iload 7, 2) := by decide +kernel
theorem dL_law_1253 : decode cL_law 1253 = .ok (.i2l, 1) := by decide +kernel
theorem dL_law_1254 : decode cL_law 1254 = .ok (.lcmp, 1) := by decide +kernel
theorem dL_law_1255 : decode cL_law 1255 = .ok (.ifCond .eq 5, 3) := by decide +kernel
theorem dL_law_1258 : decode cL_law 1258 = .ok (.iconst 0, 1) := by decide +kernel
theorem dL_law_1259 : decode cL_law 1259 = .ok (.ireturn, 1) := by decide +kernel
theorem dL_law_1260 : decode cL_law 1260 = .ok (.goto 1477, 3) := by decide +kernel
theorem dL_law_1263 : decode cL_law 1263 = .ok (.aload_n 1, 1) := by decide +kernel
theorem dL_law_1264 : decode cL_law 1264 = .ok (.aload_n 0, 1) := by decide +kernel
theorem dL_law_1265 : decode cL_law 1265 = .ok (.iload 5, 2) := by decide +kernel
theorem dL_law_1267 : decode cL_law 1267 = .ok (.iconst 1, 1) := by decide +kernel
theorem dL_law_1268 : decode cL_law 1268 = .ok (.iadd, 1) := by decide +kernel
theorem dL_law_1269 : decode cL_law 1269 = .ok (.iaload, 1) := by decide +kernel
theorem dL_law_1270 : decode cL_law 1270 = .ok (.aload_n 0, 1) := by decide +kernel
theorem dL_law_1271 : decode cL_law 1271 = .ok (.iload 5, 2) := by decide +kernel
theorem dL_law_1273 : decode cL_law 1273 = .ok (.iconst 2, 1) := by decide +kernel
theorem dL_law_1274 : decode cL_law 1274 = .ok (.iadd, 1) := by decide +kernel
theorem dL_law_1275 : decode cL_law 1275 = .ok (.iaload, 1) := by decide +kernel
theorem dL_law_1276 : decode cL_law 1276 = .ok (.aload_n 3, 1) := by decide +kernel
theorem dL_law_1277 : decode cL_law 1277 = .ok (.invokestatic 217, 3) := by decide +kernel
theorem dL_law_1280 : decode cL_law 1280 = .ok (.istore 6, 2) := by decide +kernel
theorem dL_law_1282 : decode cL_law 1282 = .ok (.aload_n 2, 1) := by decide +kernel
theorem dL_law_1283 : decode cL_law 1283 = .ok (.aload_n 0, 1) := by decide +kernel
theorem dL_law_1284 : decode cL_law 1284 = .ok (.iload 5, 2) := by decide +kernel
theorem dL_law_1286 : decode cL_law 1286 = .ok (.iconst 1, 1) := by decide +kernel
theorem dL_law_1287 : decode cL_law 1287 = .ok (.iadd, 1) := by decide +kernel
theorem dL_law_1288 : decode cL_law 1288 = .ok (.iaload, 1) := by decide +kernel
theorem dL_law_1289 : decode cL_law 1289 = .ok (.aload_n 0, 1) := by decide +kernel
theorem dL_law_1290 : decode cL_law 1290 = .ok (.iload 5, 2) := by decide +kernel
theorem dL_law_1292 : decode cL_law 1292 = .ok (.iconst 2, 1) := by decide +kernel
theorem dL_law_1293 : decode cL_law 1293 = .ok (.iadd, 1) := by decide +kernel
theorem dL_law_1294 : decode cL_law 1294 = .ok (.iaload, 1) := by decide +kernel
theorem dL_law_1295 : decode cL_law 1295 = .ok (.invokevirtual 219, 3) := by decide +kernel
theorem dL_law_1298 : decode cL_law 1298 = .ok (.istore 7, 2) := by decide +kernel
theorem dL_law_1300 : decode cL_law 1300 = .ok (.aload_n 2, 1) := by decide +kernel
theorem dL_law_1301 : decode cL_law 1301 = .ok (.invokevirtual 149, 3) := by decide +kernel
theorem dL_law_1304 : decode cL_law 1304 = .ok (.iload 6, 2) := by decide +kernel
theorem dL_law_1306 : decode cL_law 1306 = .ok (.if_icmp .eq 5, 3) := by decide +kernel
theorem dL_law_1309 : decode cL_law 1309 = .ok (.iconst 0, 1) := by decide +kernel
theorem dL_law_1310 : decode cL_law 1310 = .ok (.ireturn, 1) := by decide +kernel
theorem dL_law_1311 : decode cL_law 1311 = .ok (.iload 6, 2) := by decide +kernel
theorem dL_law_1313 : decode cL_law 1313 = .ok (.ifCond .ne 15, 3) := by decide +kernel
theorem dL_law_1316 : decode cL_law 1316 = .ok (.aload_n 3, 1) := by decide +kernel
theorem dL_law_1317 : decode cL_law 1317 = .ok (.iconst 0, 1) := by decide +kernel
theorem dL_law_1318 : decode cL_law 1318 = .ok (.laload, 1) := by decide +kernel
theorem dL_law_1319 : decode cL_law 1319 = .ok (.iload 7, 2) := by decide +kernel
theorem dL_law_1321 : decode cL_law 1321 = .ok (.i2l, 1) := by decide +kernel
theorem dL_law_1322 : decode cL_law 1322 = .ok (.lcmp, 1) := by decide +kernel
theorem dL_law_1323 : decode cL_law 1323 = .ok (.ifCond .eq 5, 3) := by decide +kernel
theorem dL_law_1326 : decode cL_law 1326 = .ok (.iconst 0, 1) := by decide +kernel
theorem dL_law_1327 : decode cL_law 1327 = .ok (.ireturn, 1) := by decide +kernel
theorem dL_law_1328 : decode cL_law 1328 = .ok (.goto 1409, 3) := by decide +kernel
theorem dL_law_1331 : decode cL_law 1331 = .ok (.aload_n 1, 1) := by decide +kernel
theorem dL_law_1332 : decode cL_law 1332 = .ok (.aload_n 0, 1) := by decide +kernel
theorem dL_law_1333 : decode cL_law 1333 = .ok (.iload 5, 2) := by decide +kernel
theorem dL_law_1335 : decode cL_law 1335 = .ok (.iconst 1, 1) := by decide +kernel
theorem dL_law_1336 : decode cL_law 1336 = .ok (.iadd, 1) := by decide +kernel
theorem dL_law_1337 : decode cL_law 1337 = .ok (.iaload, 1) := by decide +kernel
theorem dL_law_1338 : decode cL_law 1338 = .ok (.aload_n 0, 1) := by decide +kernel
theorem dL_law_1339 : decode cL_law 1339 = .ok (.iload 5, 2) := by decide +kernel
theorem dL_law_1341 : decode cL_law 1341 = .ok (.iconst 2, 1) := by decide +kernel
theorem dL_law_1342 : decode cL_law 1342 = .ok (.iadd, 1) := by decide +kernel
theorem dL_law_1343 : decode cL_law 1343 = .ok (.iaload, 1) := by decide +kernel
theorem dL_law_1344 : decode cL_law 1344 = .ok (.aload_n 3, 1) := by decide +kernel
theorem dL_law_1345 : decode cL_law 1345 = .ok (.invokestatic 220, 3) := by decide +kernel
theorem dL_law_1348 : decode cL_law 1348 = .ok (.istore 6, 2) := by decide +kernel
theorem dL_law_1350 : decode cL_law 1350 = .ok (.aload_n 2, 1) := by decide +kernel
theorem dL_law_1351 : decode cL_law 1351 = .ok (.aload_n 0, 1) := by decide +kernel
theorem dL_law_1352 : decode cL_law 1352 = .ok (.iload 5, 2) := by decide +kernel
theorem dL_law_1354 : decode cL_law 1354 = .ok (.iconst 1, 1) := by decide +kernel
theorem dL_law_1355 : decode cL_law 1355 = .ok (.iadd, 1) := by decide +kernel
theorem dL_law_1356 : decode cL_law 1356 = .ok (.iaload, 1) := by decide +kernel
theorem dL_law_1357 : decode cL_law 1357 = .ok (.aload_n 0, 1) := by decide +kernel
theorem dL_law_1358 : decode cL_law 1358 = .ok (.iload 5, 2) := by decide +kernel
theorem dL_law_1360 : decode cL_law 1360 = .ok (.iconst 2, 1) := by decide +kernel
theorem dL_law_1361 : decode cL_law 1361 = .ok (.iadd, 1) := by decide +kernel
theorem dL_law_1362 : decode cL_law 1362 = .ok (.iaload, 1) := by decide +kernel
theorem dL_law_1363 : decode cL_law 1363 = .ok (.invokevirtual 222, 3) := by decide +kernel
theorem dL_law_1366 : decode cL_law 1366 = .ok (.istore 7, 2) := by decide +kernel
theorem dL_law_1368 : decode cL_law 1368 = .ok (.aload_n 2, 1) := by decide +kernel
theorem dL_law_1369 : decode cL_law 1369 = .ok (.invokevirtual 149, 3) := by decide +kernel
theorem dL_law_1372 : decode cL_law 1372 = .ok (.iload 6, 2) := by decide +kernel
theorem dL_law_1374 : decode cL_law 1374 = .ok (.if_icmp .eq 5, 3) := by decide +kernel
theorem dL_law_1377 : decode cL_law 1377 = .ok (.iconst 0, 1) := by decide +kernel
theorem dL_law_1378 : decode cL_law 1378 = .ok (.ireturn, 1) := by decide +kernel
theorem dL_law_1379 : decode cL_law 1379 = .ok (.iload 6, 2) := by decide +kernel
theorem dL_law_1381 : decode cL_law 1381 = .ok (.ifCond .ne 15, 3) := by decide +kernel
theorem dL_law_1384 : decode cL_law 1384 = .ok (.aload_n 3, 1) := by decide +kernel
theorem dL_law_1385 : decode cL_law 1385 = .ok (.iconst 0, 1) := by decide +kernel
theorem dL_law_1386 : decode cL_law 1386 = .ok (.laload, 1) := by decide +kernel
theorem dL_law_1387 : decode cL_law 1387 = .ok (.iload 7, 2) := by decide +kernel
theorem dL_law_1389 : decode cL_law 1389 = .ok (.i2l, 1) := by decide +kernel
theorem dL_law_1390 : decode cL_law 1390 = .ok (.lcmp, 1) := by decide +kernel
theorem dL_law_1391 : decode cL_law 1391 = .ok (.ifCond .eq 5, 3) := by decide +kernel
theorem dL_law_1394 : decode cL_law 1394 = .ok (.iconst 0, 1) := by decide +kernel
theorem dL_law_1395 : decode cL_law 1395 = .ok (.ireturn, 1) := by decide +kernel
theorem dL_law_1396 : decode cL_law 1396 = .ok (.goto 1341, 3) := by decide +kernel
theorem dL_law_1399 : decode cL_law 1399 = .ok (.aload_n 1, 1) := by decide +kernel
theorem dL_law_1400 : decode cL_law 1400 = .ok (.aload_n 0, 1) := by decide +kernel
theorem dL_law_1401 : decode cL_law 1401 = .ok (.iload 5, 2) := by decide +kernel
theorem dL_law_1403 : decode cL_law 1403 = .ok (.iconst 1, 1) := by decide +kernel
theorem dL_law_1404 : decode cL_law 1404 = .ok (.iadd, 1) := by decide +kernel
theorem dL_law_1405 : decode cL_law 1405 = .ok (.iaload, 1) := by decide +kernel
theorem dL_law_1406 : decode cL_law 1406 = .ok (.aload_n 0, 1) := by decide +kernel
theorem dL_law_1407 : decode cL_law 1407 = .ok (.iload 5, 2) := by decide +kernel
theorem dL_law_1409 : decode cL_law 1409 = .ok (.iconst 2, 1) := by decide +kernel
theorem dL_law_1410 : decode cL_law 1410 = .ok (.iadd, 1) := by decide +kernel
theorem dL_law_1411 : decode cL_law 1411 = .ok (.iaload, 1) := by decide +kernel
theorem dL_law_1412 : decode cL_law 1412 = .ok (.aload_n 0, 1) := by decide +kernel
theorem dL_law_1413 : decode cL_law 1413 = .ok (.iload 5, 2) := by decide +kernel
theorem dL_law_1415 : decode cL_law 1415 = .ok (.iconst 3, 1) := by decide +kernel
theorem dL_law_1416 : decode cL_law 1416 = .ok (.iadd, 1) := by decide +kernel
theorem dL_law_1417 : decode cL_law 1417 = .ok (.iaload, 1) := by decide +kernel
theorem dL_law_1418 : decode cL_law 1418 = .ok (.aload_n 3, 1) := by decide +kernel
theorem dL_law_1419 : decode cL_law 1419 = .ok (.invokestatic 223, 3) := by decide +kernel
theorem dL_law_1422 : decode cL_law 1422 = .ok (.istore 6, 2) := by decide +kernel
theorem dL_law_1424 : decode cL_law 1424 = .ok (.aload_n 2, 1) := by decide +kernel
theorem dL_law_1425 : decode cL_law 1425 = .ok (.aload_n 0, 1) := by decide +kernel
theorem dL_law_1426 : decode cL_law 1426 = .ok (.iload 5, 2) := by decide +kernel
theorem dL_law_1428 : decode cL_law 1428 = .ok (.iconst 1, 1) := by decide +kernel
theorem dL_law_1429 : decode cL_law 1429 = .ok (.iadd, 1) := by decide +kernel
theorem dL_law_1430 : decode cL_law 1430 = .ok (.iaload, 1) := by decide +kernel
theorem dL_law_1431 : decode cL_law 1431 = .ok (.aload_n 0, 1) := by decide +kernel
theorem dL_law_1432 : decode cL_law 1432 = .ok (.iload 5, 2) := by decide +kernel
theorem dL_law_1434 : decode cL_law 1434 = .ok (.iconst 2, 1) := by decide +kernel
theorem dL_law_1435 : decode cL_law 1435 = .ok (.iadd, 1) := by decide +kernel
theorem dL_law_1436 : decode cL_law 1436 = .ok (.iaload, 1) := by decide +kernel
theorem dL_law_1437 : decode cL_law 1437 = .ok (.aload_n 0, 1) := by decide +kernel
theorem dL_law_1438 : decode cL_law 1438 = .ok (.iload 5, 2) := by decide +kernel
theorem dL_law_1440 : decode cL_law 1440 = .ok (.iconst 3, 1) := by decide +kernel
theorem dL_law_1441 : decode cL_law 1441 = .ok (.iadd, 1) := by decide +kernel
theorem dL_law_1442 : decode cL_law 1442 = .ok (.iaload, 1) := by decide +kernel
theorem dL_law_1443 : decode cL_law 1443 = .ok (.invokevirtual 225, 3) := by decide +kernel
theorem dL_law_1446 : decode cL_law 1446 = .ok (.istore 7, 2) := by decide +kernel
theorem dL_law_1448 : decode cL_law 1448 = .ok (.aload_n 2, 1) := by decide +kernel
theorem dL_law_1449 : decode cL_law 1449 = .ok (.invokevirtual 149, 3) := by decide +kernel
theorem dL_law_1452 : decode cL_law 1452 = .ok (.iload 6, 2) := by decide +kernel
theorem dL_law_1454 : decode cL_law 1454 = .ok (.if_icmp .eq 5, 3) := by decide +kernel
theorem dL_law_1457 : decode cL_law 1457 = .ok (.iconst 0, 1) := by decide +kernel
theorem dL_law_1458 : decode cL_law 1458 = .ok (.ireturn, 1) := by decide +kernel
theorem dL_law_1459 : decode cL_law 1459 = .ok (.iload 6, 2) := by decide +kernel
theorem dL_law_1461 : decode cL_law 1461 = .ok (.ifCond .ne 22, 3) := by decide +kernel
theorem dL_law_1464 : decode cL_law 1464 = .ok (.aload_n 3, 1) := by decide +kernel
theorem dL_law_1465 : decode cL_law 1465 = .ok (.iconst 0, 1) := by decide +kernel
theorem dL_law_1466 : decode cL_law 1466 = .ok (.laload, 1) := by decide +kernel
theorem dL_law_1467 : decode cL_law 1467 = .ok (.iload 7, 2) := by decide +kernel
theorem dL_law_1469 : decode cL_law 1469 = .ok (.ifCond .eq 7, 3) := by decide +kernel
theorem dL_law_1472 : decode cL_law 1472 = .ok (.lconst 1, 1) := by decide +kernel
theorem dL_law_1473 : decode cL_law 1473 = .ok (.goto 4, 3) := by decide +kernel
theorem dL_law_1476 : decode cL_law 1476 = .ok (.lconst 0, 1) := by decide +kernel
theorem dL_law_1477 : decode cL_law 1477 = .ok (.lcmp, 1) := by decide +kernel
theorem dL_law_1478 : decode cL_law 1478 = .ok (.ifCond .eq 5, 3) := by decide +kernel
theorem dL_law_1481 : decode cL_law 1481 = .ok (.iconst 0, 1) := by decide +kernel
theorem dL_law_1482 : decode cL_law 1482 = .ok (.ireturn, 1) := by decide +kernel
theorem dL_law_1483 : decode cL_law 1483 = .ok (.goto 1254, 3) := by decide +kernel
theorem dL_law_1486 : decode cL_law 1486 = .ok (.aload_n 1, 1) := by decide +kernel
theorem dL_law_1487 : decode cL_law 1487 = .ok (.aload_n 0, 1) := by decide +kernel
theorem dL_law_1488 : decode cL_law 1488 = .ok (.iload 5, 2) := by decide +kernel
theorem dL_law_1490 : decode cL_law 1490 = .ok (.iconst 1, 1) := by decide +kernel
theorem dL_law_1491 : decode cL_law 1491 = .ok (.iadd, 1) := by decide +kernel
theorem dL_law_1492 : decode cL_law 1492 = .ok (.iaload, 1) := by decide +kernel
theorem dL_law_1493 : decode cL_law 1493 = .ok (.aload_n 0, 1) := by decide +kernel
theorem dL_law_1494 : decode cL_law 1494 = .ok (.iload 5, 2) := by decide +kernel
theorem dL_law_1496 : decode cL_law 1496 = .ok (.iconst 2, 1) := by decide +kernel
theorem dL_law_1497 : decode cL_law 1497 = .ok (.iadd, 1) := by decide +kernel
theorem dL_law_1498 : decode cL_law 1498 = .ok (.iaload, 1) := by decide +kernel
theorem dL_law_1499 : decode cL_law 1499 = .ok (.aload_n 0, 1) := by decide +kernel
theorem dL_law_1500 : decode cL_law 1500 = .ok (.iload 5, 2) := by decide +kernel
theorem dL_law_1502 : decode cL_law 1502 = .ok (.iconst 3, 1) := by decide +kernel
theorem dL_law_1503 : decode cL_law 1503 = .ok (.iadd, 1) := by decide +kernel
theorem dL_law_1504 : decode cL_law 1504 = .ok (.iaload, 1) := by decide +kernel
theorem dL_law_1505 : decode cL_law 1505 = .ok (.aload_n 3, 1) := by decide +kernel
theorem dL_law_1506 : decode cL_law 1506 = .ok (.invokestatic 226, 3) := by decide +kernel
theorem dL_law_1509 : decode cL_law 1509 = .ok (.istore 6, 2) := by decide +kernel
theorem dL_law_1511 : decode cL_law 1511 = .ok (.aload_n 2, 1) := by decide +kernel
theorem dL_law_1512 : decode cL_law 1512 = .ok (.aload_n 0, 1) := by decide +kernel
theorem dL_law_1513 : decode cL_law 1513 = .ok (.iload 5, 2) := by decide +kernel
theorem dL_law_1515 : decode cL_law 1515 = .ok (.iconst 1, 1) := by decide +kernel
theorem dL_law_1516 : decode cL_law 1516 = .ok (.iadd, 1) := by decide +kernel
theorem dL_law_1517 : decode cL_law 1517 = .ok (.iaload, 1) := by decide +kernel
theorem dL_law_1518 : decode cL_law 1518 = .ok (.aload_n 0, 1) := by decide +kernel
theorem dL_law_1519 : decode cL_law 1519 = .ok (.iload 5, 2) := by decide +kernel
theorem dL_law_1521 : decode cL_law 1521 = .ok (.iconst 2, 1) := by decide +kernel
theorem dL_law_1522 : decode cL_law 1522 = .ok (.iadd, 1) := by decide +kernel
theorem dL_law_1523 : decode cL_law 1523 = .ok (.iaload, 1) := by decide +kernel
theorem dL_law_1524 : decode cL_law 1524 = .ok (.aload_n 0, 1) := by decide +kernel
theorem dL_law_1525 : decode cL_law 1525 = .ok (.iload 5, 2) := by decide +kernel
theorem dL_law_1527 : decode cL_law 1527 = .ok (.iconst 3, 1) := by decide +kernel
theorem dL_law_1528 : decode cL_law 1528 = .ok (.iadd, 1) := by decide +kernel
theorem dL_law_1529 : decode cL_law 1529 = .ok (.iaload, 1) := by decide +kernel
theorem dL_law_1530 : decode cL_law 1530 = .ok (.invokevirtual 228, 3) := by decide +kernel
theorem dL_law_1533 : decode cL_law 1533 = .ok (.istore 7, 2) := by decide +kernel
theorem dL_law_1535 : decode cL_law 1535 = .ok (.aload_n 2, 1) := by decide +kernel
theorem dL_law_1536 : decode cL_law 1536 = .ok (.invokevirtual 149, 3) := by decide +kernel
theorem dL_law_1539 : decode cL_law 1539 = .ok (.iload 6, 2) := by decide +kernel
theorem dL_law_1541 : decode cL_law 1541 = .ok (.if_icmp .eq 5, 3) := by decide +kernel
theorem dL_law_1544 : decode cL_law 1544 = .ok (.iconst 0, 1) := by decide +kernel
theorem dL_law_1545 : decode cL_law 1545 = .ok (.ireturn, 1) := by decide +kernel
theorem dL_law_1546 : decode cL_law 1546 = .ok (.iload 6, 2) := by decide +kernel
theorem dL_law_1548 : decode cL_law 1548 = .ok (.ifCond .ne 22, 3) := by decide +kernel
theorem dL_law_1551 : decode cL_law 1551 = .ok (.aload_n 3, 1) := by decide +kernel
theorem dL_law_1552 : decode cL_law 1552 = .ok (.iconst 0, 1) := by decide +kernel
theorem dL_law_1553 : decode cL_law 1553 = .ok (.laload, 1) := by decide +kernel
theorem dL_law_1554 : decode cL_law 1554 = .ok (.iload 7, 2) := by decide +kernel
theorem dL_law_1556 : decode cL_law 1556 = .ok (.ifCond .eq 7, 3) := by decide +kernel
theorem dL_law_1559 : decode cL_law 1559 = .ok (.lconst 1, 1) := by decide +kernel
theorem dL_law_1560 : decode cL_law 1560 = .ok (.goto 4, 3) := by decide +kernel
theorem dL_law_1563 : decode cL_law 1563 = .ok (.lconst 0, 1) := by decide +kernel
theorem dL_law_1564 : decode cL_law 1564 = .ok (.lcmp, 1) := by decide +kernel
theorem dL_law_1565 : decode cL_law 1565 = .ok (.ifCond .eq 5, 3) := by decide +kernel
theorem dL_law_1568 : decode cL_law 1568 = .ok (.iconst 0, 1) := by decide +kernel
theorem dL_law_1569 : decode cL_law 1569 = .ok (.ireturn, 1) := by decide +kernel
theorem dL_law_1570 : decode cL_law 1570 = .ok (.goto 1167, 3) := by decide +kernel
theorem dL_law_1573 : decode cL_law 1573 = .ok (.aload_n 1, 1) := by decide +kernel
theorem dL_law_1574 : decode cL_law 1574 = .ok (.aload_n 0, 1) := by decide +kernel
theorem dL_law_1575 : decode cL_law 1575 = .ok (.iload 5, 2) := by decide +kernel
theorem dL_law_1577 : decode cL_law 1577 = .ok (.iconst 1, 1) := by decide +kernel
theorem dL_law_1578 : decode cL_law 1578 = .ok (.iadd, 1) := by decide +kernel
theorem dL_law_1579 : decode cL_law 1579 = .ok (.iaload, 1) := by decide +kernel
theorem dL_law_1580 : decode cL_law 1580 = .ok (.aload_n 0, 1) := by decide +kernel
theorem dL_law_1581 : decode cL_law 1581 = .ok (.iload 5, 2) := by decide +kernel
theorem dL_law_1583 : decode cL_law 1583 = .ok (.iconst 2, 1) := by decide +kernel
theorem dL_law_1584 : decode cL_law 1584 = .ok (.iadd, 1) := by decide +kernel
theorem dL_law_1585 : decode cL_law 1585 = .ok (.iaload, 1) := by decide +kernel
theorem dL_law_1586 : decode cL_law 1586 = .ok (.aload_n 0, 1) := by decide +kernel
theorem dL_law_1587 : decode cL_law 1587 = .ok (.iload 5, 2) := by decide +kernel
theorem dL_law_1589 : decode cL_law 1589 = .ok (.iconst 3, 1) := by decide +kernel
theorem dL_law_1590 : decode cL_law 1590 = .ok (.iadd, 1) := by decide +kernel
theorem dL_law_1591 : decode cL_law 1591 = .ok (.iaload, 1) := by decide +kernel
theorem dL_law_1592 : decode cL_law 1592 = .ok (.aload_n 0, 1) := by decide +kernel
theorem dL_law_1593 : decode cL_law 1593 = .ok (.iload 5, 2) := by decide +kernel
theorem dL_law_1595 : decode cL_law 1595 = .ok (.iconst 4, 1) := by decide +kernel
theorem dL_law_1596 : decode cL_law 1596 = .ok (.iadd, 1) := by decide +kernel
theorem dL_law_1597 : decode cL_law 1597 = .ok (.iaload, 1) := by decide +kernel
theorem dL_law_1598 : decode cL_law 1598 = .ok (.aload_n 3, 1) := by decide +kernel
theorem dL_law_1599 : decode cL_law 1599 = .ok (.invokestatic 229, 3) := by decide +kernel
theorem dL_law_1602 : decode cL_law 1602 = .ok (.istore 6, 2) := by decide +kernel
theorem dL_law_1604 : decode cL_law 1604 = .ok (.aload_n 2, 1) := by decide +kernel
theorem dL_law_1605 : decode cL_law 1605 = .ok (.aload_n 0, 1) := by decide +kernel
theorem dL_law_1606 : decode cL_law 1606 = .ok (.iload 5, 2) := by decide +kernel
theorem dL_law_1608 : decode cL_law 1608 = .ok (.iconst 1, 1) := by decide +kernel
theorem dL_law_1609 : decode cL_law 1609 = .ok (.iadd, 1) := by decide +kernel
theorem dL_law_1610 : decode cL_law 1610 = .ok (.iaload, 1) := by decide +kernel
theorem dL_law_1611 : decode cL_law 1611 = .ok (.aload_n 0, 1) := by decide +kernel
theorem dL_law_1612 : decode cL_law 1612 = .ok (.iload 5, 2) := by decide +kernel
theorem dL_law_1614 : decode cL_law 1614 = .ok (.iconst 2, 1) := by decide +kernel
theorem dL_law_1615 : decode cL_law 1615 = .ok (.iadd, 1) := by decide +kernel
theorem dL_law_1616 : decode cL_law 1616 = .ok (.iaload, 1) := by decide +kernel
theorem dL_law_1617 : decode cL_law 1617 = .ok (.aload_n 0, 1) := by decide +kernel
theorem dL_law_1618 : decode cL_law 1618 = .ok (.iload 5, 2) := by decide +kernel
theorem dL_law_1620 : decode cL_law 1620 = .ok (.iconst 3, 1) := by decide +kernel
theorem dL_law_1621 : decode cL_law 1621 = .ok (.iadd, 1) := by decide +kernel
theorem dL_law_1622 : decode cL_law 1622 = .ok (.iaload, 1) := by decide +kernel
theorem dL_law_1623 : decode cL_law 1623 = .ok (.aload_n 0, 1) := by decide +kernel
theorem dL_law_1624 : decode cL_law 1624 = .ok (.iload 5, 2) := by decide +kernel
theorem dL_law_1626 : decode cL_law 1626 = .ok (.iconst 4, 1) := by decide +kernel
theorem dL_law_1627 : decode cL_law 1627 = .ok (.iadd, 1) := by decide +kernel
theorem dL_law_1628 : decode cL_law 1628 = .ok (.iaload, 1) := by decide +kernel
theorem dL_law_1629 : decode cL_law 1629 = .ok (.invokevirtual 232, 3) := by decide +kernel
theorem dL_law_1632 : decode cL_law 1632 = .ok (.istore 7, 2) := by decide +kernel
theorem dL_law_1634 : decode cL_law 1634 = .ok (.aload_n 2, 1) := by decide +kernel
theorem dL_law_1635 : decode cL_law 1635 = .ok (.invokevirtual 149, 3) := by decide +kernel
theorem dL_law_1638 : decode cL_law 1638 = .ok (.iload 6, 2) := by decide +kernel
theorem dL_law_1640 : decode cL_law 1640 = .ok (.if_icmp .eq 5, 3) := by decide +kernel
theorem dL_law_1643 : decode cL_law 1643 = .ok (.iconst 0, 1) := by decide +kernel
theorem dL_law_1644 : decode cL_law 1644 = .ok (.ireturn, 1) := by decide +kernel
theorem dL_law_1645 : decode cL_law 1645 = .ok (.iload 6, 2) := by decide +kernel
theorem dL_law_1647 : decode cL_law 1647 = .ok (.ifCond .ne 15, 3) := by decide +kernel
theorem dL_law_1650 : decode cL_law 1650 = .ok (.aload_n 3, 1) := by decide +kernel
theorem dL_law_1651 : decode cL_law 1651 = .ok (.iconst 0, 1) := by decide +kernel
theorem dL_law_1652 : decode cL_law 1652 = .ok (.laload, 1) := by decide +kernel
theorem dL_law_1653 : decode cL_law 1653 = .ok (.iload 7, 2) := by decide +kernel
theorem dL_law_1655 : decode cL_law 1655 = .ok (.i2l, 1) := by decide +kernel
theorem dL_law_1656 : decode cL_law 1656 = .ok (.lcmp, 1) := by decide +kernel
theorem dL_law_1657 : decode cL_law 1657 = .ok (.ifCond .eq 5, 3) := by decide +kernel
theorem dL_law_1660 : decode cL_law 1660 = .ok (.iconst 0, 1) := by decide +kernel
theorem dL_law_1661 : decode cL_law 1661 = .ok (.ireturn, 1) := by decide +kernel
theorem dL_law_1662 : decode cL_law 1662 = .ok (.goto 1075, 3) := by decide +kernel
theorem dL_law_1665 : decode cL_law 1665 = .ok (.aload_n 1, 1) := by decide +kernel
theorem dL_law_1666 : decode cL_law 1666 = .ok (.aload_n 0, 1) := by decide +kernel
theorem dL_law_1667 : decode cL_law 1667 = .ok (.iload 5, 2) := by decide +kernel
theorem dL_law_1669 : decode cL_law 1669 = .ok (.iconst 1, 1) := by decide +kernel
theorem dL_law_1670 : decode cL_law 1670 = .ok (.iadd, 1) := by decide +kernel
theorem dL_law_1671 : decode cL_law 1671 = .ok (.iaload, 1) := by decide +kernel
theorem dL_law_1672 : decode cL_law 1672 = .ok (.i2c, 1) := by decide +kernel
theorem dL_law_1673 : decode cL_law 1673 = .ok (.aload_n 0, 1) := by decide +kernel
theorem dL_law_1674 : decode cL_law 1674 = .ok (.iload 5, 2) := by decide +kernel
theorem dL_law_1676 : decode cL_law 1676 = .ok (.iconst 2, 1) := by decide +kernel
theorem dL_law_1677 : decode cL_law 1677 = .ok (.iadd, 1) := by decide +kernel
theorem dL_law_1678 : decode cL_law 1678 = .ok (.iaload, 1) := by decide +kernel
theorem dL_law_1679 : decode cL_law 1679 = .ok (.aload_n 0, 1) := by decide +kernel
theorem dL_law_1680 : decode cL_law 1680 = .ok (.iload 5, 2) := by decide +kernel
theorem dL_law_1682 : decode cL_law 1682 = .ok (.iconst 3, 1) := by decide +kernel
theorem dL_law_1683 : decode cL_law 1683 = .ok (.iadd, 1) := by decide +kernel
theorem dL_law_1684 : decode cL_law 1684 = .ok (.iaload, 1) := by decide +kernel
theorem dL_law_1685 : decode cL_law 1685 = .ok (.aload_n 3, 1) := by decide +kernel
theorem dL_law_1686 : decode cL_law 1686 = .ok (.invokestatic 233, 3) := by decide +kernel
theorem dL_law_1689 : decode cL_law 1689 = .ok (.istore 6, 2) := by decide +kernel
theorem dL_law_1691 : decode cL_law 1691 = .ok (.aload_n 2, 1) := by decide +kernel
theorem dL_law_1692 : decode cL_law 1692 = .ok (.aload_n 0, 1) := by decide +kernel
theorem dL_law_1693 : decode cL_law 1693 = .ok (.iload 5, 2) := by decide +kernel
theorem dL_law_1695 : decode cL_law 1695 = .ok (.iconst 1, 1) := by decide +kernel
theorem dL_law_1696 : decode cL_law 1696 = .ok (.iadd, 1) := by decide +kernel
theorem dL_law_1697 : decode cL_law 1697 = .ok (.iaload, 1) := by decide +kernel
theorem dL_law_1698 : decode cL_law 1698 = .ok (.i2c, 1) := by decide +kernel
theorem dL_law_1699 : decode cL_law 1699 = .ok (.aload_n 0, 1) := by decide +kernel
theorem dL_law_1700 : decode cL_law 1700 = .ok (.iload 5, 2) := by decide +kernel
theorem dL_law_1702 : decode cL_law 1702 = .ok (.iconst 2, 1) := by decide +kernel
theorem dL_law_1703 : decode cL_law 1703 = .ok (.iadd, 1) := by decide +kernel
theorem dL_law_1704 : decode cL_law 1704 = .ok (.iaload, 1) := by decide +kernel
theorem dL_law_1705 : decode cL_law 1705 = .ok (.aload_n 0, 1) := by decide +kernel
theorem dL_law_1706 : decode cL_law 1706 = .ok (.iload 5, 2) := by decide +kernel
theorem dL_law_1708 : decode cL_law 1708 = .ok (.iconst 3, 1) := by decide +kernel
theorem dL_law_1709 : decode cL_law 1709 = .ok (.iadd, 1) := by decide +kernel
theorem dL_law_1710 : decode cL_law 1710 = .ok (.iaload, 1) := by decide +kernel
theorem dL_law_1711 : decode cL_law 1711 = .ok (.invokevirtual 236, 3) := by decide +kernel
theorem dL_law_1714 : decode cL_law 1714 = .ok (.istore 7, 2) := by decide +kernel
theorem dL_law_1716 : decode cL_law 1716 = .ok (.aload_n 2, 1) := by decide +kernel
theorem dL_law_1717 : decode cL_law 1717 = .ok (.invokevirtual 149, 3) := by decide +kernel
theorem dL_law_1720 : decode cL_law 1720 = .ok (.iload 6, 2) := by decide +kernel
theorem dL_law_1722 : decode cL_law 1722 = .ok (.if_icmp .eq 5, 3) := by decide +kernel
theorem dL_law_1725 : decode cL_law 1725 = .ok (.iconst 0, 1) := by decide +kernel
theorem dL_law_1726 : decode cL_law 1726 = .ok (.ireturn, 1) := by decide +kernel
theorem dL_law_1727 : decode cL_law 1727 = .ok (.iload 6, 2) := by decide +kernel
theorem dL_law_1729 : decode cL_law 1729 = .ok (.ifCond .ne 15, 3) := by decide +kernel
theorem dL_law_1732 : decode cL_law 1732 = .ok (.aload_n 3, 1) := by decide +kernel
theorem dL_law_1733 : decode cL_law 1733 = .ok (.iconst 0, 1) := by decide +kernel
theorem dL_law_1734 : decode cL_law 1734 = .ok (.laload, 1) := by decide +kernel
theorem dL_law_1735 : decode cL_law 1735 = .ok (.iload 7, 2) := by decide +kernel
theorem dL_law_1737 : decode cL_law 1737 = .ok (.i2l, 1) := by decide +kernel
theorem dL_law_1738 : decode cL_law 1738 = .ok (.lcmp, 1) := by decide +kernel
theorem dL_law_1739 : decode cL_law 1739 = .ok (.ifCond .eq 5, 3) := by decide +kernel
theorem dL_law_1742 : decode cL_law 1742 = .ok (.iconst 0, 1) := by decide +kernel
theorem dL_law_1743 : decode cL_law 1743 = .ok (.ireturn, 1) := by decide +kernel
theorem dL_law_1744 : decode cL_law 1744 = .ok (.goto 993, 3) := by decide +kernel
theorem dL_law_1747 : decode cL_law 1747 = .ok (.aload_n 1, 1) := by decide +kernel
theorem dL_law_1748 : decode cL_law 1748 = .ok (.aload_n 0, 1) := by decide +kernel
theorem dL_law_1749 : decode cL_law 1749 = .ok (.iload 5, 2) := by decide +kernel
theorem dL_law_1751 : decode cL_law 1751 = .ok (.iconst 1, 1) := by decide +kernel
theorem dL_law_1752 : decode cL_law 1752 = .ok (.iadd, 1) := by decide +kernel
theorem dL_law_1753 : decode cL_law 1753 = .ok (.iaload, 1) := by decide +kernel
theorem dL_law_1754 : decode cL_law 1754 = .ok (.i2c, 1) := by decide +kernel
theorem dL_law_1755 : decode cL_law 1755 = .ok (.aload_n 0, 1) := by decide +kernel
theorem dL_law_1756 : decode cL_law 1756 = .ok (.iload 5, 2) := by decide +kernel
theorem dL_law_1758 : decode cL_law 1758 = .ok (.iconst 2, 1) := by decide +kernel
theorem dL_law_1759 : decode cL_law 1759 = .ok (.iadd, 1) := by decide +kernel
theorem dL_law_1760 : decode cL_law 1760 = .ok (.iaload, 1) := by decide +kernel
theorem dL_law_1761 : decode cL_law 1761 = .ok (.aload_n 0, 1) := by decide +kernel
theorem dL_law_1762 : decode cL_law 1762 = .ok (.iload 5, 2) := by decide +kernel
theorem dL_law_1764 : decode cL_law 1764 = .ok (.iconst 3, 1) := by decide +kernel
theorem dL_law_1765 : decode cL_law 1765 = .ok (.iadd, 1) := by decide +kernel
theorem dL_law_1766 : decode cL_law 1766 = .ok (.iaload, 1) := by decide +kernel
theorem dL_law_1767 : decode cL_law 1767 = .ok (.aload_n 3, 1) := by decide +kernel
theorem dL_law_1768 : decode cL_law 1768 = .ok (.invokestatic 237, 3) := by decide +kernel
theorem dL_law_1771 : decode cL_law 1771 = .ok (.istore 6, 2) := by decide +kernel
theorem dL_law_1773 : decode cL_law 1773 = .ok (.aload_n 2, 1) := by decide +kernel
theorem dL_law_1774 : decode cL_law 1774 = .ok (.aload_n 0, 1) := by decide +kernel
theorem dL_law_1775 : decode cL_law 1775 = .ok (.iload 5, 2) := by decide +kernel
theorem dL_law_1777 : decode cL_law 1777 = .ok (.iconst 1, 1) := by decide +kernel
theorem dL_law_1778 : decode cL_law 1778 = .ok (.iadd, 1) := by decide +kernel
theorem dL_law_1779 : decode cL_law 1779 = .ok (.iaload, 1) := by decide +kernel
theorem dL_law_1780 : decode cL_law 1780 = .ok (.i2c, 1) := by decide +kernel
theorem dL_law_1781 : decode cL_law 1781 = .ok (.aload_n 0, 1) := by decide +kernel
theorem dL_law_1782 : decode cL_law 1782 = .ok (.iload 5, 2) := by decide +kernel
theorem dL_law_1784 : decode cL_law 1784 = .ok (.iconst 2, 1) := by decide +kernel
theorem dL_law_1785 : decode cL_law 1785 = .ok (.iadd, 1) := by decide +kernel
theorem dL_law_1786 : decode cL_law 1786 = .ok (.iaload, 1) := by decide +kernel
theorem dL_law_1787 : decode cL_law 1787 = .ok (.aload_n 0, 1) := by decide +kernel
theorem dL_law_1788 : decode cL_law 1788 = .ok (.iload 5, 2) := by decide +kernel
theorem dL_law_1790 : decode cL_law 1790 = .ok (.iconst 3, 1) := by decide +kernel
theorem dL_law_1791 : decode cL_law 1791 = .ok (.iadd, 1) := by decide +kernel
theorem dL_law_1792 : decode cL_law 1792 = .ok (.iaload, 1) := by decide +kernel
theorem dL_law_1793 : decode cL_law 1793 = .ok (.invokevirtual 239, 3) := by decide +kernel
theorem dL_law_1796 : decode cL_law 1796 = .ok (.istore 7, 2) := by decide +kernel
theorem dL_law_1798 : decode cL_law 1798 = .ok (.aload_n 2, 1) := by decide +kernel
theorem dL_law_1799 : decode cL_law 1799 = .ok (.invokevirtual 149, 3) := by decide +kernel
theorem dL_law_1802 : decode cL_law 1802 = .ok (.iload 6, 2) := by decide +kernel
theorem dL_law_1804 : decode cL_law 1804 = .ok (.if_icmp .eq 5, 3) := by decide +kernel
theorem dL_law_1807 : decode cL_law 1807 = .ok (.iconst 0, 1) := by decide +kernel
theorem dL_law_1808 : decode cL_law 1808 = .ok (.ireturn, 1) := by decide +kernel
theorem dL_law_1809 : decode cL_law 1809 = .ok (.iload 6, 2) := by decide +kernel
theorem dL_law_1811 : decode cL_law 1811 = .ok (.ifCond .ne 15, 3) := by decide +kernel
theorem dL_law_1814 : decode cL_law 1814 = .ok (.aload_n 3, 1) := by decide +kernel
theorem dL_law_1815 : decode cL_law 1815 = .ok (.iconst 0, 1) := by decide +kernel
theorem dL_law_1816 : decode cL_law 1816 = .ok (.laload, 1) := by decide +kernel
theorem dL_law_1817 : decode cL_law 1817 = .ok (.iload 7, 2) := by decide +kernel
theorem dL_law_1819 : decode cL_law 1819 = .ok (.i2l, 1) := by decide +kernel
theorem dL_law_1820 : decode cL_law 1820 = .ok (.lcmp, 1) := by decide +kernel
theorem dL_law_1821 : decode cL_law 1821 = .ok (.ifCond .eq 5, 3) := by decide +kernel
theorem dL_law_1824 : decode cL_law 1824 = .ok (.iconst 0, 1) := by decide +kernel
theorem dL_law_1825 : decode cL_law 1825 = .ok (.ireturn, 1) := by decide +kernel
theorem dL_law_1826 : decode cL_law 1826 = .ok (.goto 911, 3) := by decide +kernel
theorem dL_law_1829 : decode cL_law 1829 = .ok (.aload_n 1, 1) := by decide +kernel
theorem dL_law_1830 : decode cL_law 1830 = .ok (.aload_n 0, 1) := by decide +kernel
theorem dL_law_1831 : decode cL_law 1831 = .ok (.iload 5, 2) := by decide +kernel
theorem dL_law_1833 : decode cL_law 1833 = .ok (.iconst 1, 1) := by decide +kernel
theorem dL_law_1834 : decode cL_law 1834 = .ok (.iadd, 1) := by decide +kernel
theorem dL_law_1835 : decode cL_law 1835 = .ok (.iaload, 1) := by decide +kernel
theorem dL_law_1836 : decode cL_law 1836 = .ok (.aload_n 3, 1) := by decide +kernel
theorem dL_law_1837 : decode cL_law 1837 = .ok (.invokestatic 240, 3) := by decide +kernel
theorem dL_law_1840 : decode cL_law 1840 = .ok (.istore 6, 2) := by decide +kernel
theorem dL_law_1842 : decode cL_law 1842 = .ok (.aload_n 2, 1) := by decide +kernel
theorem dL_law_1843 : decode cL_law 1843 = .ok (.aload_n 0, 1) := by decide +kernel
theorem dL_law_1844 : decode cL_law 1844 = .ok (.iload 5, 2) := by decide +kernel
theorem dL_law_1846 : decode cL_law 1846 = .ok (.iconst 1, 1) := by decide +kernel
theorem dL_law_1847 : decode cL_law 1847 = .ok (.iadd, 1) := by decide +kernel
theorem dL_law_1848 : decode cL_law 1848 = .ok (.iaload, 1) := by decide +kernel
theorem dL_law_1849 : decode cL_law 1849 = .ok (.invokevirtual 242, 3) := by decide +kernel
theorem dL_law_1852 : decode cL_law 1852 = .ok (.istore 7, 2) := by decide +kernel
theorem dL_law_1854 : decode cL_law 1854 = .ok (.aload_n 2, 1) := by decide +kernel
theorem dL_law_1855 : decode cL_law 1855 = .ok (.invokevirtual 149, 3) := by decide +kernel
theorem dL_law_1858 : decode cL_law 1858 = .ok (.iload 6, 2) := by decide +kernel
theorem dL_law_1860 : decode cL_law 1860 = .ok (.if_icmp .eq 5, 3) := by decide +kernel
theorem dL_law_1863 : decode cL_law 1863 = .ok (.iconst 0, 1) := by decide +kernel
theorem dL_law_1864 : decode cL_law 1864 = .ok (.ireturn, 1) := by decide +kernel
theorem dL_law_1865 : decode cL_law 1865 = .ok (.iload 6, 2) := by decide +kernel
theorem dL_law_1867 : decode cL_law 1867 = .ok (.ifCond .ne 15, 3) := by decide +kernel
theorem dL_law_1870 : decode cL_law 1870 = .ok (.aload_n 3, 1) := by decide +kernel
theorem dL_law_1871 : decode cL_law 1871 = .ok (.iconst 0, 1) := by decide +kernel
theorem dL_law_1872 : decode cL_law 1872 = .ok (.laload, 1) := by decide +kernel
theorem dL_law_1873 : decode cL_law 1873 = .ok (.iload 7, 2) := by decide +kernel
theorem dL_law_1875 : decode cL_law 1875 = .ok (.i2l, 1) := by decide +kernel
theorem dL_law_1876 : decode cL_law 1876 = .ok (.lcmp, 1) := by decide +kernel
theorem dL_law_1877 : decode cL_law 1877 = .ok (.ifCond .eq 5, 3) := by decide +kernel
theorem dL_law_1880 : decode cL_law 1880 = .ok (.iconst 0, 1) := by decide +kernel
theorem dL_law_1881 : decode cL_law 1881 = .ok (.ireturn, 1) := by decide +kernel
theorem dL_law_1882 : decode cL_law 1882 = .ok (.goto 855, 3) := by decide +kernel
theorem dL_law_1885 : decode cL_law 1885 = .ok (.aload_n 1, 1) := by decide +kernel
theorem dL_law_1886 : decode cL_law 1886 = .ok (.aload_n 0, 1) := by decide +kernel
theorem dL_law_1887 : decode cL_law 1887 = .ok (.iload 5, 2) := by decide +kernel
theorem dL_law_1889 : decode cL_law 1889 = .ok (.iconst 1, 1) := by decide +kernel
theorem dL_law_1890 : decode cL_law 1890 = .ok (.iadd, 1) := by decide +kernel
theorem dL_law_1891 : decode cL_law 1891 = .ok (.iaload, 1) := by decide +kernel
theorem dL_law_1892 : decode cL_law 1892 = .ok (.i2c, 1) := by decide +kernel
theorem dL_law_1893 : decode cL_law 1893 = .ok (.aload_n 0, 1) := by decide +kernel
theorem dL_law_1894 : decode cL_law 1894 = .ok (.iload 5, 2) := by decide +kernel
theorem dL_law_1896 : decode cL_law 1896 = .ok (.iconst 2, 1) := by decide +kernel
theorem dL_law_1897 : decode cL_law 1897 = .ok (.iadd, 1) := by decide +kernel
theorem dL_law_1898 : decode cL_law 1898 = .ok (.iaload, 1) := by decide +kernel
theorem dL_law_1899 : decode cL_law 1899 = .ok (.aload_n 0, 1) := by decide +kernel
theorem dL_law_1900 : decode cL_law 1900 = .ok (.iload 5, 2) := by decide +kernel
theorem dL_law_1902 : decode cL_law 1902 = .ok (.iconst 3, 1) := by decide +kernel
theorem dL_law_1903 : decode cL_law 1903 = .ok (.iadd, 1) := by decide +kernel
theorem dL_law_1904 : decode cL_law 1904 = .ok (.iaload, 1) := by decide +kernel
theorem dL_law_1905 : decode cL_law 1905 = .ok (.aload_n 0, 1) := by decide +kernel
theorem dL_law_1906 : decode cL_law 1906 = .ok (.iload 5, 2) := by decide +kernel
theorem dL_law_1908 : decode cL_law 1908 = .ok (.iconst 4, 1) := by decide +kernel
theorem dL_law_1909 : decode cL_law 1909 = .ok (.iadd, 1) := by decide +kernel
theorem dL_law_1910 : decode cL_law 1910 = .ok (.iaload, 1) := by decide +kernel
theorem dL_law_1911 : decode cL_law 1911 = .ok (.aload_n 3, 1) := by decide +kernel
theorem dL_law_1912 : decode cL_law 1912 = .ok (.invokestatic 243, 3) := by decide +kernel
theorem dL_law_1915 : decode cL_law 1915 = .ok (.istore 6, 2) := by decide +kernel
theorem dL_law_1917 : decode cL_law 1917 = .ok (.aload_n 2, 1) := by decide +kernel
theorem dL_law_1918 : decode cL_law 1918 = .ok (.aload_n 0, 1) := by decide +kernel
theorem dL_law_1919 : decode cL_law 1919 = .ok (.iload 5, 2) := by decide +kernel
theorem dL_law_1921 : decode cL_law 1921 = .ok (.iconst 1, 1) := by decide +kernel
theorem dL_law_1922 : decode cL_law 1922 = .ok (.iadd, 1) := by decide +kernel
theorem dL_law_1923 : decode cL_law 1923 = .ok (.iaload, 1) := by decide +kernel
theorem dL_law_1924 : decode cL_law 1924 = .ok (.i2c, 1) := by decide +kernel
theorem dL_law_1925 : decode cL_law 1925 = .ok (.aload_n 0, 1) := by decide +kernel
theorem dL_law_1926 : decode cL_law 1926 = .ok (.iload 5, 2) := by decide +kernel
theorem dL_law_1928 : decode cL_law 1928 = .ok (.iconst 2, 1) := by decide +kernel
theorem dL_law_1929 : decode cL_law 1929 = .ok (.iadd, 1) := by decide +kernel
theorem dL_law_1930 : decode cL_law 1930 = .ok (.iaload, 1) := by decide +kernel
theorem dL_law_1931 : decode cL_law 1931 = .ok (.aload_n 0, 1) := by decide +kernel
theorem dL_law_1932 : decode cL_law 1932 = .ok (.iload 5, 2) := by decide +kernel
theorem dL_law_1934 : decode cL_law 1934 = .ok (.iconst 3, 1) := by decide +kernel
theorem dL_law_1935 : decode cL_law 1935 = .ok (.iadd, 1) := by decide +kernel
theorem dL_law_1936 : decode cL_law 1936 = .ok (.iaload, 1) := by decide +kernel
theorem dL_law_1937 : decode cL_law 1937 = .ok (.aload_n 0, 1) := by decide +kernel
theorem dL_law_1938 : decode cL_law 1938 = .ok (.iload 5, 2) := by decide +kernel
theorem dL_law_1940 : decode cL_law 1940 = .ok (.iconst 4, 1) := by decide +kernel
theorem dL_law_1941 : decode cL_law 1941 = .ok (.iadd, 1) := by decide +kernel
theorem dL_law_1942 : decode cL_law 1942 = .ok (.iaload, 1) := by decide +kernel
theorem dL_law_1943 : decode cL_law 1943 = .ok (.invokevirtual 246, 3) := by decide +kernel
theorem dL_law_1946 : decode cL_law 1946 = .ok (.istore 7, 2) := by decide +kernel
theorem dL_law_1948 : decode cL_law 1948 = .ok (.aload_n 2, 1) := by decide +kernel
theorem dL_law_1949 : decode cL_law 1949 = .ok (.invokevirtual 149, 3) := by decide +kernel
theorem dL_law_1952 : decode cL_law 1952 = .ok (.iload 6, 2) := by decide +kernel
theorem dL_law_1954 : decode cL_law 1954 = .ok (.if_icmp .eq 5, 3) := by decide +kernel
theorem dL_law_1957 : decode cL_law 1957 = .ok (.iconst 0, 1) := by decide +kernel
theorem dL_law_1958 : decode cL_law 1958 = .ok (.ireturn, 1) := by decide +kernel
theorem dL_law_1959 : decode cL_law 1959 = .ok (.iload 6, 2) := by decide +kernel
theorem dL_law_1961 : decode cL_law 1961 = .ok (.ifCond .ne 15, 3) := by decide +kernel
theorem dL_law_1964 : decode cL_law 1964 = .ok (.aload_n 3, 1) := by decide +kernel
theorem dL_law_1965 : decode cL_law 1965 = .ok (.iconst 0, 1) := by decide +kernel
theorem dL_law_1966 : decode cL_law 1966 = .ok (.laload, 1) := by decide +kernel
theorem dL_law_1967 : decode cL_law 1967 = .ok (.iload 7, 2) := by decide +kernel
theorem dL_law_1969 : decode cL_law 1969 = .ok (.i2l, 1) := by decide +kernel
theorem dL_law_1970 : decode cL_law 1970 = .ok (.lcmp, 1) := by decide +kernel
theorem dL_law_1971 : decode cL_law 1971 = .ok (.ifCond .eq 5, 3) := by decide +kernel
theorem dL_law_1974 : decode cL_law 1974 = .ok (.iconst 0, 1) := by decide +kernel
theorem dL_law_1975 : decode cL_law 1975 = .ok (.ireturn, 1) := by decide +kernel
theorem dL_law_1976 : decode cL_law 1976 = .ok (.goto 761, 3) := by decide +kernel
theorem dL_law_1979 : decode cL_law 1979 = .ok (.aload_n 1, 1) := by decide +kernel
theorem dL_law_1980 : decode cL_law 1980 = .ok (.aload_n 0, 1) := by decide +kernel
theorem dL_law_1981 : decode cL_law 1981 = .ok (.iload 5, 2) := by decide +kernel
theorem dL_law_1983 : decode cL_law 1983 = .ok (.iconst 1, 1) := by decide +kernel
theorem dL_law_1984 : decode cL_law 1984 = .ok (.iadd, 1) := by decide +kernel
theorem dL_law_1985 : decode cL_law 1985 = .ok (.iaload, 1) := by decide +kernel
theorem dL_law_1986 : decode cL_law 1986 = .ok (.aload_n 3, 1) := by decide +kernel
theorem dL_law_1987 : decode cL_law 1987 = .ok (.invokestatic 247, 3) := by decide +kernel
theorem dL_law_1990 : decode cL_law 1990 = .ok (.istore 6, 2) := by decide +kernel
theorem dL_law_1992 : decode cL_law 1992 = .ok (.aload_n 2, 1) := by decide +kernel
theorem dL_law_1993 : decode cL_law 1993 = .ok (.aload_n 0, 1) := by decide +kernel
theorem dL_law_1994 : decode cL_law 1994 = .ok (.iload 5, 2) := by decide +kernel
theorem dL_law_1996 : decode cL_law 1996 = .ok (.iconst 1, 1) := by decide +kernel
theorem dL_law_1997 : decode cL_law 1997 = .ok (.iadd, 1) := by decide +kernel
theorem dL_law_1998 : decode cL_law 1998 = .ok (.iaload, 1) := by decide +kernel
theorem dL_law_1999 : decode cL_law 1999 = .ok (.invokevirtual 249, 3) := by decide +kernel
theorem dL_law_2002 : decode cL_law 2002 = .ok (.istore 7, 2) := by decide +kernel
theorem dL_law_2004 : decode cL_law 2004 = .ok (.aload_n 2, 1) := by decide +kernel
theorem dL_law_2005 : decode cL_law 2005 = .ok (.invokevirtual 149, 3) := by decide +kernel
theorem dL_law_2008 : decode cL_law 2008 = .ok (.iload 6, 2) := by decide +kernel
theorem dL_law_2010 : decode cL_law 2010 = .ok (.if_icmp .eq 5, 3) := by decide +kernel
theorem dL_law_2013 : decode cL_law 2013 = .ok (.iconst 0, 1) := by decide +kernel
theorem dL_law_2014 : decode cL_law 2014 = .ok (.ireturn, 1) := by decide +kernel
theorem dL_law_2015 : decode cL_law 2015 = .ok (.iload 6, 2) := by decide +kernel
theorem dL_law_2017 : decode cL_law 2017 = .ok (.ifCond .ne 15, 3) := by decide +kernel
theorem dL_law_2020 : decode cL_law 2020 = .ok (.aload_n 3, 1) := by decide +kernel
theorem dL_law_2021 : decode cL_law 2021 = .ok (.iconst 0, 1) := by decide +kernel
theorem dL_law_2022 : decode cL_law 2022 = .ok (.laload, 1) := by decide +kernel
theorem dL_law_2023 : decode cL_law 2023 = .ok (.iload 7, 2) := by decide +kernel
theorem dL_law_2025 : decode cL_law 2025 = .ok (.i2l, 1) := by decide +kernel
theorem dL_law_2026 : decode cL_law 2026 = .ok (.lcmp, 1) := by decide +kernel
theorem dL_law_2027 : decode cL_law 2027 = .ok (.ifCond .eq 5, 3) := by decide +kernel
theorem dL_law_2030 : decode cL_law 2030 = .ok (.iconst 0, 1) := by decide +kernel
theorem dL_law_2031 : decode cL_law 2031 = .ok (.ireturn, 1) := by decide +kernel
theorem dL_law_2032 : decode cL_law 2032 = .ok (.goto 705, 3) := by decide +kernel
theorem dL_law_2035 : decode cL_law 2035 = .ok (.aload_n 1, 1) := by decide +kernel
theorem dL_law_2036 : decode cL_law 2036 = .ok (.aload_n 0, 1) := by decide +kernel
theorem dL_law_2037 : decode cL_law 2037 = .ok (.iload 5, 2) := by decide +kernel
theorem dL_law_2039 : decode cL_law 2039 = .ok (.iconst 1, 1) := by decide +kernel
theorem dL_law_2040 : decode cL_law 2040 = .ok (.iadd, 1) := by decide +kernel
theorem dL_law_2041 : decode cL_law 2041 = .ok (.iaload, 1) := by decide +kernel
theorem dL_law_2042 : decode cL_law 2042 = .ok (.aload_n 3, 1) := by decide +kernel
theorem dL_law_2043 : decode cL_law 2043 = .ok (.invokestatic 250, 3) := by decide +kernel
theorem dL_law_2046 : decode cL_law 2046 = .ok (.istore 6, 2) := by decide +kernel
theorem dL_law_2048 : decode cL_law 2048 = .ok (.aload_n 2, 1) := by decide +kernel
theorem dL_law_2049 : decode cL_law 2049 = .ok (.aload_n 0, 1) := by decide +kernel
theorem dL_law_2050 : decode cL_law 2050 = .ok (.iload 5, 2) := by decide +kernel
theorem dL_law_2052 : decode cL_law 2052 = .ok (.iconst 1, 1) := by decide +kernel
theorem dL_law_2053 : decode cL_law 2053 = .ok (.iadd, 1) := by decide +kernel
theorem dL_law_2054 : decode cL_law 2054 = .ok (.iaload, 1) := by decide +kernel
theorem dL_law_2055 : decode cL_law 2055 = .ok (.invokevirtual 252, 3) := by decide +kernel
theorem dL_law_2058 : decode cL_law 2058 = .ok (.istore 7, 2) := by decide +kernel
theorem dL_law_2060 : decode cL_law 2060 = .ok (.aload_n 2, 1) := by decide +kernel
theorem dL_law_2061 : decode cL_law 2061 = .ok (.invokevirtual 149, 3) := by decide +kernel
theorem dL_law_2064 : decode cL_law 2064 = .ok (.iload 6, 2) := by decide +kernel
theorem dL_law_2066 : decode cL_law 2066 = .ok (.if_icmp .eq 5, 3) := by decide +kernel
theorem dL_law_2069 : decode cL_law 2069 = .ok (.iconst 0, 1) := by decide +kernel
theorem dL_law_2070 : decode cL_law 2070 = .ok (.ireturn, 1) := by decide +kernel
theorem dL_law_2071 : decode cL_law 2071 = .ok (.iload 6, 2) := by decide +kernel
theorem dL_law_2073 : decode cL_law 2073 = .ok (.ifCond .ne 15, 3) := by decide +kernel
theorem dL_law_2076 : decode cL_law 2076 = .ok (.aload_n 3, 1) := by decide +kernel
theorem dL_law_2077 : decode cL_law 2077 = .ok (.iconst 0, 1) := by decide +kernel
theorem dL_law_2078 : decode cL_law 2078 = .ok (.laload, 1) := by decide +kernel
theorem dL_law_2079 : decode cL_law 2079 = .ok (.iload 7, 2) := by decide +kernel
theorem dL_law_2081 : decode cL_law 2081 = .ok (.i2l, 1) := by decide +kernel
theorem dL_law_2082 : decode cL_law 2082 = .ok (.lcmp, 1) := by decide +kernel
theorem dL_law_2083 : decode cL_law 2083 = .ok (.ifCond .eq 5, 3) := by decide +kernel
theorem dL_law_2086 : decode cL_law 2086 = .ok (.iconst 0, 1) := by decide +kernel
theorem dL_law_2087 : decode cL_law 2087 = .ok (.ireturn, 1) := by decide +kernel
theorem dL_law_2088 : decode cL_law 2088 = .ok (.goto 649, 3) := by decide +kernel
theorem dL_law_2091 : decode cL_law 2091 = .ok (.aload_n 1, 1) := by decide +kernel
theorem dL_law_2092 : decode cL_law 2092 = .ok (.aload_n 0, 1) := by decide +kernel
theorem dL_law_2093 : decode cL_law 2093 = .ok (.iload 5, 2) := by decide +kernel
theorem dL_law_2095 : decode cL_law 2095 = .ok (.iconst 1, 1) := by decide +kernel
theorem dL_law_2096 : decode cL_law 2096 = .ok (.iadd, 1) := by decide +kernel
theorem dL_law_2097 : decode cL_law 2097 = .ok (.iaload, 1) := by decide +kernel
theorem dL_law_2098 : decode cL_law 2098 = .ok (.aload_n 0, 1) := by decide +kernel
theorem dL_law_2099 : decode cL_law 2099 = .ok (.iload 5, 2) := by decide +kernel
theorem dL_law_2101 : decode cL_law 2101 = .ok (.iconst 2, 1) := by decide +kernel
theorem dL_law_2102 : decode cL_law 2102 = .ok (.iadd, 1) := by decide +kernel
theorem dL_law_2103 : decode cL_law 2103 = .ok (.iaload, 1) := by decide +kernel
theorem dL_law_2104 : decode cL_law 2104 = .ok (.aload_n 3, 1) := by decide +kernel
theorem dL_law_2105 : decode cL_law 2105 = .ok (.invokestatic 253, 3) := by decide +kernel
theorem dL_law_2108 : decode cL_law 2108 = .ok (.istore 6, 2) := by decide +kernel
theorem dL_law_2110 : decode cL_law 2110 = .ok (.aload_n 2, 1) := by decide +kernel
theorem dL_law_2111 : decode cL_law 2111 = .ok (.aload_n 0, 1) := by decide +kernel
theorem dL_law_2112 : decode cL_law 2112 = .ok (.iload 5, 2) := by decide +kernel
theorem dL_law_2114 : decode cL_law 2114 = .ok (.iconst 1, 1) := by decide +kernel
theorem dL_law_2115 : decode cL_law 2115 = .ok (.iadd, 1) := by decide +kernel
theorem dL_law_2116 : decode cL_law 2116 = .ok (.iaload, 1) := by decide +kernel
theorem dL_law_2117 : decode cL_law 2117 = .ok (.aload_n 0, 1) := by decide +kernel
theorem dL_law_2118 : decode cL_law 2118 = .ok (.iload 5, 2) := by decide +kernel
theorem dL_law_2120 : decode cL_law 2120 = .ok (.iconst 2, 1) := by decide +kernel
theorem dL_law_2121 : decode cL_law 2121 = .ok (.iadd, 1) := by decide +kernel
theorem dL_law_2122 : decode cL_law 2122 = .ok (.iaload, 1) := by decide +kernel
theorem dL_law_2123 : decode cL_law 2123 = .ok (.invokevirtual 255, 3) := by decide +kernel
theorem dL_law_2126 : decode cL_law 2126 = .ok (.istore 7, 2) := by decide +kernel
theorem dL_law_2128 : decode cL_law 2128 = .ok (.aload_n 2, 1) := by decide +kernel
theorem dL_law_2129 : decode cL_law 2129 = .ok (.invokevirtual 149, 3) := by decide +kernel
theorem dL_law_2132 : decode cL_law 2132 = .ok (.iload 6, 2) := by decide +kernel
theorem dL_law_2134 : decode cL_law 2134 = .ok (.if_icmp .eq 5, 3) := by decide +kernel
theorem dL_law_2137 : decode cL_law 2137 = .ok (.iconst 0, 1) := by decide +kernel
theorem dL_law_2138 : decode cL_law 2138 = .ok (.ireturn, 1) := by decide +kernel
theorem dL_law_2139 : decode cL_law 2139 = .ok (.iload 6, 2) := by decide +kernel
theorem dL_law_2141 : decode cL_law 2141 = .ok (.ifCond .ne 22, 3) := by decide +kernel
theorem dL_law_2144 : decode cL_law 2144 = .ok (.aload_n 3, 1) := by decide +kernel
theorem dL_law_2145 : decode cL_law 2145 = .ok (.iconst 0, 1) := by decide +kernel
theorem dL_law_2146 : decode cL_law 2146 = .ok (.laload, 1) := by decide +kernel
theorem dL_law_2147 : decode cL_law 2147 = .ok (.iload 7, 2) := by decide +kernel
theorem dL_law_2149 : decode cL_law 2149 = .ok (.ifCond .eq 7, 3) := by decide +kernel
theorem dL_law_2152 : decode cL_law 2152 = .ok (.lconst 1, 1) := by decide +kernel
theorem dL_law_2153 : decode cL_law 2153 = .ok (.goto 4, 3) := by decide +kernel
theorem dL_law_2156 : decode cL_law 2156 = .ok (.lconst 0, 1) := by decide +kernel
theorem dL_law_2157 : decode cL_law 2157 = .ok (.lcmp, 1) := by decide +kernel
theorem dL_law_2158 : decode cL_law 2158 = .ok (.ifCond .eq 5, 3) := by decide +kernel
theorem dL_law_2161 : decode cL_law 2161 = .ok (.iconst 0, 1) := by decide +kernel
theorem dL_law_2162 : decode cL_law 2162 = .ok (.ireturn, 1) := by decide +kernel
theorem dL_law_2163 : decode cL_law 2163 = .ok (.goto 574, 3) := by decide +kernel
theorem dL_law_2166 : decode cL_law 2166 = .ok (.aload_n 1, 1) := by decide +kernel
theorem dL_law_2167 : decode cL_law 2167 = .ok (.aload_n 0, 1) := by decide +kernel
theorem dL_law_2168 : decode cL_law 2168 = .ok (.iload 5, 2) := by decide +kernel
theorem dL_law_2170 : decode cL_law 2170 = .ok (.iconst 1, 1) := by decide +kernel
theorem dL_law_2171 : decode cL_law 2171 = .ok (.iadd, 1) := by decide +kernel
theorem dL_law_2172 : decode cL_law 2172 = .ok (.iaload, 1) := by decide +kernel
theorem dL_law_2173 : decode cL_law 2173 = .ok (.aload_n 0, 1) := by decide +kernel
theorem dL_law_2174 : decode cL_law 2174 = .ok (.iload 5, 2) := by decide +kernel
theorem dL_law_2176 : decode cL_law 2176 = .ok (.iconst 2, 1) := by decide +kernel
theorem dL_law_2177 : decode cL_law 2177 = .ok (.iadd, 1) := by decide +kernel
theorem dL_law_2178 : decode cL_law 2178 = .ok (.iaload, 1) := by decide +kernel
theorem dL_law_2179 : decode cL_law 2179 = .ok (.aload_n 3, 1) := by decide +kernel
theorem dL_law_2180 : decode cL_law 2180 = .ok (.invokestatic 256, 3) := by decide +kernel
theorem dL_law_2183 : decode cL_law 2183 = .ok (.istore 6, 2) := by decide +kernel
theorem dL_law_2185 : decode cL_law 2185 = .ok (.aload_n 2, 1) := by decide +kernel
theorem dL_law_2186 : decode cL_law 2186 = .ok (.aload_n 0, 1) := by decide +kernel
theorem dL_law_2187 : decode cL_law 2187 = .ok (.iload 5, 2) := by decide +kernel
theorem dL_law_2189 : decode cL_law 2189 = .ok (.iconst 1, 1) := by decide +kernel
theorem dL_law_2190 : decode cL_law 2190 = .ok (.iadd, 1) := by decide +kernel
theorem dL_law_2191 : decode cL_law 2191 = .ok (.iaload, 1) := by decide +kernel
theorem dL_law_2192 : decode cL_law 2192 = .ok (.aload_n 0, 1) := by decide +kernel
theorem dL_law_2193 : decode cL_law 2193 = .ok (.iload 5, 2) := by decide +kernel
theorem dL_law_2195 : decode cL_law 2195 = .ok (.iconst 2, 1) := by decide +kernel
theorem dL_law_2196 : decode cL_law 2196 = .ok (.iadd, 1) := by decide +kernel
theorem dL_law_2197 : decode cL_law 2197 = .ok (.iaload, 1) := by decide +kernel
theorem dL_law_2198 : decode cL_law 2198 = .ok (.invokevirtual 258, 3) := by decide +kernel
theorem dL_law_2201 : decode cL_law 2201 = .ok (.istore 7, 2) := by decide +kernel
theorem dL_law_2203 : decode cL_law 2203 = .ok (.aload_n 2, 1) := by decide +kernel
theorem dL_law_2204 : decode cL_law 2204 = .ok (.invokevirtual 149, 3) := by decide +kernel
theorem dL_law_2207 : decode cL_law 2207 = .ok (.iload 6, 2) := by decide +kernel
theorem dL_law_2209 : decode cL_law 2209 = .ok (.if_icmp .eq 5, 3) := by decide +kernel
theorem dL_law_2212 : decode cL_law 2212 = .ok (.iconst 0, 1) := by decide +kernel
theorem dL_law_2213 : decode cL_law 2213 = .ok (.ireturn, 1) := by decide +kernel
theorem dL_law_2214 : decode cL_law 2214 = .ok (.iload 6, 2) := by decide +kernel
theorem dL_law_2216 : decode cL_law 2216 = .ok (.ifCond .ne 22, 3) := by decide +kernel
theorem dL_law_2219 : decode cL_law 2219 = .ok (.aload_n 3, 1) := by decide +kernel
theorem dL_law_2220 : decode cL_law 2220 = .ok (.iconst 0, 1) := by decide +kernel
theorem dL_law_2221 : decode cL_law 2221 = .ok (.laload, 1) := by decide +kernel
theorem dL_law_2222 : decode cL_law 2222 = .ok (.iload 7, 2) := by decide +kernel
theorem dL_law_2224 : decode cL_law 2224 = .ok (.ifCond .eq 7, 3) := by decide +kernel
theorem dL_law_2227 : decode cL_law 2227 = .ok (.lconst 1, 1) := by decide +kernel
theorem dL_law_2228 : decode cL_law 2228 = .ok (.goto 4, 3) := by decide +kernel
theorem dL_law_2231 : decode cL_law 2231 = .ok (.lconst 0, 1) := by decide +kernel
theorem dL_law_2232 : decode cL_law 2232 = .ok (.lcmp, 1) := by decide +kernel
theorem dL_law_2233 : decode cL_law 2233 = .ok (.ifCond .eq 5, 3) := by decide +kernel
theorem dL_law_2236 : decode cL_law 2236 = .ok (.iconst 0, 1) := by decide +kernel
theorem dL_law_2237 : decode cL_law 2237 = .ok (.ireturn, 1) := by decide +kernel
theorem dL_law_2238 : decode cL_law 2238 = .ok (.goto 499, 3) := by decide +kernel
theorem dL_law_2241 : decode cL_law 2241 = .ok (.aload_n 1, 1) := by decide +kernel
theorem dL_law_2242 : decode cL_law 2242 = .ok (.aload_n 0, 1) := by decide +kernel
theorem dL_law_2243 : decode cL_law 2243 = .ok (.iload 5, 2) := by decide +kernel
theorem dL_law_2245 : decode cL_law 2245 = .ok (.iconst 1, 1) := by decide +kernel
theorem dL_law_2246 : decode cL_law 2246 = .ok (.iadd, 1) := by decide +kernel
theorem dL_law_2247 : decode cL_law 2247 = .ok (.iaload, 1) := by decide +kernel
theorem dL_law_2248 : decode cL_law 2248 = .ok (.aload_n 0, 1) := by decide +kernel
theorem dL_law_2249 : decode cL_law 2249 = .ok (.iload 5, 2) := by decide +kernel
theorem dL_law_2251 : decode cL_law 2251 = .ok (.iconst 2, 1) := by decide +kernel
theorem dL_law_2252 : decode cL_law 2252 = .ok (.iadd, 1) := by decide +kernel
theorem dL_law_2253 : decode cL_law 2253 = .ok (.iaload, 1) := by decide +kernel
theorem dL_law_2254 : decode cL_law 2254 = .ok (.aload_n 3, 1) := by decide +kernel
theorem dL_law_2255 : decode cL_law 2255 = .ok (.invokestatic 259, 3) := by decide +kernel
theorem dL_law_2258 : decode cL_law 2258 = .ok (.istore 6, 2) := by decide +kernel
theorem dL_law_2260 : decode cL_law 2260 = .ok (.aload_n 2, 1) := by decide +kernel
theorem dL_law_2261 : decode cL_law 2261 = .ok (.aload_n 0, 1) := by decide +kernel
theorem dL_law_2262 : decode cL_law 2262 = .ok (.iload 5, 2) := by decide +kernel
theorem dL_law_2264 : decode cL_law 2264 = .ok (.iconst 1, 1) := by decide +kernel
theorem dL_law_2265 : decode cL_law 2265 = .ok (.iadd, 1) := by decide +kernel
theorem dL_law_2266 : decode cL_law 2266 = .ok (.iaload, 1) := by decide +kernel
theorem dL_law_2267 : decode cL_law 2267 = .ok (.aload_n 0, 1) := by decide +kernel
theorem dL_law_2268 : decode cL_law 2268 = .ok (.iload 5, 2) := by decide +kernel
theorem dL_law_2270 : decode cL_law 2270 = .ok (.iconst 2, 1) := by decide +kernel
theorem dL_law_2271 : decode cL_law 2271 = .ok (.iadd, 1) := by decide +kernel
theorem dL_law_2272 : decode cL_law 2272 = .ok (.iaload, 1) := by decide +kernel
theorem dL_law_2273 : decode cL_law 2273 = .ok (.invokevirtual 261, 3) := by decide +kernel
theorem dL_law_2276 : decode cL_law 2276 = .ok (.istore 7, 2) := by decide +kernel
theorem dL_law_2278 : decode cL_law 2278 = .ok (.aload_n 2, 1) := by decide +kernel
theorem dL_law_2279 : decode cL_law 2279 = .ok (.invokevirtual 149, 3) := by decide +kernel
theorem dL_law_2282 : decode cL_law 2282 = .ok (.iload 6, 2) := by decide +kernel
theorem dL_law_2284 : decode cL_law 2284 = .ok (.if_icmp .eq 5, 3) := by decide +kernel
theorem dL_law_2287 : decode cL_law 2287 = .ok (.iconst 0, 1) := by decide +kernel
theorem dL_law_2288 : decode cL_law 2288 = .ok (.ireturn, 1) := by decide +kernel
theorem dL_law_2289 : decode cL_law 2289 = .ok (.iload 6, 2) := by decide +kernel
theorem dL_law_2291 : decode cL_law 2291 = .ok (.ifCond .ne 22, 3) := by decide +kernel
theorem dL_law_2294 : decode cL_law 2294 = .ok (.aload_n 3, 1) := by decide +kernel
theorem dL_law_2295 : decode cL_law 2295 = .ok (.iconst 0, 1) := by decide +kernel
theorem dL_law_2296 : decode cL_law 2296 = .ok (.laload, 1) := by decide +kernel
theorem dL_law_2297 : decode cL_law 2297 = .ok (.iload 7, 2) := by decide +kernel
theorem dL_law_2299 : decode cL_law 2299 = .ok (.ifCond .eq 7, 3) := by decide +kernel
theorem dL_law_2302 : decode cL_law 2302 = .ok (.lconst 1, 1) := by decide +kernel
theorem dL_law_2303 : decode cL_law 2303 = .ok (.goto 4, 3) := by decide +kernel
theorem dL_law_2306 : decode cL_law 2306 = .ok (.lconst 0, 1) := by decide +kernel
theorem dL_law_2307 : decode cL_law 2307 = .ok (.lcmp, 1) := by decide +kernel
theorem dL_law_2308 : decode cL_law 2308 = .ok (.ifCond .eq 5, 3) := by decide +kernel
theorem dL_law_2311 : decode cL_law 2311 = .ok (.iconst 0, 1) := by decide +kernel
theorem dL_law_2312 : decode cL_law 2312 = .ok (.ireturn, 1) := by decide +kernel
theorem dL_law_2313 : decode cL_law 2313 = .ok (.goto 424, 3) := by decide +kernel
theorem dL_law_2316 : decode cL_law 2316 = .ok (.aload_n 1, 1) := by decide +kernel
theorem dL_law_2317 : decode cL_law 2317 = .ok (.aload_n 0, 1) := by decide +kernel
theorem dL_law_2318 : decode cL_law 2318 = .ok (.iload 5, 2) := by decide +kernel
theorem dL_law_2320 : decode cL_law 2320 = .ok (.iconst 1, 1) := by decide +kernel
theorem dL_law_2321 : decode cL_law 2321 = .ok (.iadd, 1) := by decide +kernel
theorem dL_law_2322 : decode cL_law 2322 = .ok (.iaload, 1) := by decide +kernel
theorem dL_law_2323 : decode cL_law 2323 = .ok (.aload_n 3, 1) := by decide +kernel
theorem dL_law_2324 : decode cL_law 2324 = .ok (.invokestatic 262, 3) := by decide +kernel
theorem dL_law_2327 : decode cL_law 2327 = .ok (.istore 6, 2) := by decide +kernel
theorem dL_law_2329 : decode cL_law 2329 = .ok (.aload_n 2, 1) := by decide +kernel
theorem dL_law_2330 : decode cL_law 2330 = .ok (.aload_n 0, 1) := by decide +kernel
theorem dL_law_2331 : decode cL_law 2331 = .ok (.iload 5, 2) := by decide +kernel
theorem dL_law_2333 : decode cL_law 2333 = .ok (.iconst 1, 1) := by decide +kernel
theorem dL_law_2334 : decode cL_law 2334 = .ok (.iadd, 1) := by decide +kernel
theorem dL_law_2335 : decode cL_law 2335 = .ok (.iaload, 1) := by decide +kernel
theorem dL_law_2336 : decode cL_law 2336 = .ok (.invokevirtual 264, 3) := by decide +kernel
theorem dL_law_2339 : decode cL_law 2339 = .ok (.istore 7, 2) := by decide +kernel
theorem dL_law_2341 : decode cL_law 2341 = .ok (.aload_n 2, 1) := by decide +kernel
theorem dL_law_2342 : decode cL_law 2342 = .ok (.invokevirtual 149, 3) := by decide +kernel
theorem dL_law_2345 : decode cL_law 2345 = .ok (.iload 6, 2) := by decide +kernel
theorem dL_law_2347 : decode cL_law 2347 = .ok (.if_icmp .eq 5, 3) := by decide +kernel
theorem dL_law_2350 : decode cL_law 2350 = .ok (.iconst 0, 1) := by decide +kernel
theorem dL_law_2351 : decode cL_law 2351 = .ok (.ireturn, 1) := by decide +kernel
theorem dL_law_2352 : decode cL_law 2352 = .ok (.iload 6, 2) := by decide +kernel
theorem dL_law_2354 : decode cL_law 2354 = .ok (.ifCond .ne 15, 3) := by decide +kernel
theorem dL_law_2357 : decode cL_law 2357 = .ok (.aload_n 3, 1) := by decide +kernel
theorem dL_law_2358 : decode cL_law 2358 = .ok (.iconst 0, 1) := by decide +kernel
theorem dL_law_2359 : decode cL_law 2359 = .ok (.laload, 1) := by decide +kernel
theorem dL_law_2360 : decode cL_law 2360 = .ok (.iload 7, 2) := by decide +kernel
theorem dL_law_2362 : decode cL_law 2362 = .ok (.i2l, 1) := by decide +kernel
theorem dL_law_2363 : decode cL_law 2363 = .ok (.lcmp, 1) := by decide +kernel
theorem dL_law_2364 : decode cL_law 2364 = .ok (.ifCond .eq 5, 3) := by decide +kernel
theorem dL_law_2367 : decode cL_law 2367 = .ok (.iconst 0, 1) := by decide +kernel
theorem dL_law_2368 : decode cL_law 2368 = .ok (.ireturn, 1) := by decide +kernel
theorem dL_law_2369 : decode cL_law 2369 = .ok (.goto 368, 3) := by decide +kernel
theorem dL_law_2372 : decode cL_law 2372 = .ok (.aload_n 1, 1) := by decide +kernel
theorem dL_law_2373 : decode cL_law 2373 = .ok (.aload_n 0, 1) := by decide +kernel
theorem dL_law_2374 : decode cL_law 2374 = .ok (.iload 5, 2) := by decide +kernel
theorem dL_law_2376 : decode cL_law 2376 = .ok (.iconst 1, 1) := by decide +kernel
theorem dL_law_2377 : decode cL_law 2377 = .ok (.iadd, 1) := by decide +kernel
theorem dL_law_2378 : decode cL_law 2378 = .ok (.iaload, 1) := by decide +kernel
theorem dL_law_2379 : decode cL_law 2379 = .ok (.aload_n 0, 1) := by decide +kernel
theorem dL_law_2380 : decode cL_law 2380 = .ok (.iload 5, 2) := by decide +kernel
theorem dL_law_2382 : decode cL_law 2382 = .ok (.iconst 2, 1) := by decide +kernel
theorem dL_law_2383 : decode cL_law 2383 = .ok (.iadd, 1) := by decide +kernel
theorem dL_law_2384 : decode cL_law 2384 = .ok (.iaload, 1) := by decide +kernel
theorem dL_law_2385 : decode cL_law 2385 = .ok (.aload_n 3, 1) := by decide +kernel
theorem dL_law_2386 : decode cL_law 2386 = .ok (.invokestatic 265, 3) := by decide +kernel
theorem dL_law_2389 : decode cL_law 2389 = .ok (.istore 6, 2) := by decide +kernel
theorem dL_law_2391 : decode cL_law 2391 = .ok (.aload_n 2, 1) := by decide +kernel
theorem dL_law_2392 : decode cL_law 2392 = .ok (.aload_n 0, 1) := by decide +kernel
theorem dL_law_2393 : decode cL_law 2393 = .ok (.iload 5, 2) := by decide +kernel
theorem dL_law_2395 : decode cL_law 2395 = .ok (.iconst 1, 1) := by decide +kernel
theorem dL_law_2396 : decode cL_law 2396 = .ok (.iadd, 1) := by decide +kernel
theorem dL_law_2397 : decode cL_law 2397 = .ok (.iaload, 1) := by decide +kernel
theorem dL_law_2398 : decode cL_law 2398 = .ok (.aload_n 0, 1) := by decide +kernel
theorem dL_law_2399 : decode cL_law 2399 = .ok (.iload 5, 2) := by decide +kernel
theorem dL_law_2401 : decode cL_law 2401 = .ok (.iconst 2, 1) := by decide +kernel
theorem dL_law_2402 : decode cL_law 2402 = .ok (.iadd, 1) := by decide +kernel
theorem dL_law_2403 : decode cL_law 2403 = .ok (.iaload, 1) := by decide +kernel
theorem dL_law_2404 : decode cL_law 2404 = .ok (.invokevirtual 267, 3) := by decide +kernel
theorem dL_law_2407 : decode cL_law 2407 = .ok (.istore 7, 2) := by decide +kernel
theorem dL_law_2409 : decode cL_law 2409 = .ok (.aload_n 2, 1) := by decide +kernel
theorem dL_law_2410 : decode cL_law 2410 = .ok (.invokevirtual 149, 3) := by decide +kernel
theorem dL_law_2413 : decode cL_law 2413 = .ok (.iload 6, 2) := by decide +kernel
theorem dL_law_2415 : decode cL_law 2415 = .ok (.if_icmp .eq 5, 3) := by decide +kernel
theorem dL_law_2418 : decode cL_law 2418 = .ok (.iconst 0, 1) := by decide +kernel
theorem dL_law_2419 : decode cL_law 2419 = .ok (.ireturn, 1) := by decide +kernel
theorem dL_law_2420 : decode cL_law 2420 = .ok (.iload 6, 2) := by decide +kernel
theorem dL_law_2422 : decode cL_law 2422 = .ok (.ifCond .ne 22, 3) := by decide +kernel
theorem dL_law_2425 : decode cL_law 2425 = .ok (.aload_n 3, 1) := by decide +kernel
theorem dL_law_2426 : decode cL_law 2426 = .ok (.iconst 0, 1) := by decide +kernel
theorem dL_law_2427 : decode cL_law 2427 = .ok (.laload, 1) := by decide +kernel
theorem dL_law_2428 : decode cL_law 2428 = .ok (.iload 7, 2) := by decide +kernel
theorem dL_law_2430 : decode cL_law 2430 = .ok (.ifCond .eq 7, 3) := by decide +kernel
theorem dL_law_2433 : decode cL_law 2433 = .ok (.lconst 1, 1) := by decide +kernel
theorem dL_law_2434 : decode cL_law 2434 = .ok (.goto 4, 3) := by decide +kernel
theorem dL_law_2437 : decode cL_law 2437 = .ok (.lconst 0, 1) := by decide +kernel
theorem dL_law_2438 : decode cL_law 2438 = .ok (.lcmp, 1) := by decide +kernel
theorem dL_law_2439 : decode cL_law 2439 = .ok (.ifCond .eq 5, 3) := by decide +kernel
theorem dL_law_2442 : decode cL_law 2442 = .ok (.iconst 0, 1) := by decide +kernel
theorem dL_law_2443 : decode cL_law 2443 = .ok (.ireturn, 1) := by decide +kernel
theorem dL_law_2444 : decode cL_law 2444 = .ok (.goto 293, 3) := by decide +kernel
theorem dL_law_2447 : decode cL_law 2447 = .ok (.aload_n 1, 1) := by decide +kernel
theorem dL_law_2448 : decode cL_law 2448 = .ok (.aload_n 0, 1) := by decide +kernel
theorem dL_law_2449 : decode cL_law 2449 = .ok (.iload 5, 2) := by decide +kernel
theorem dL_law_2451 : decode cL_law 2451 = .ok (.iconst 1, 1) := by decide +kernel
theorem dL_law_2452 : decode cL_law 2452 = .ok (.iadd, 1) := by decide +kernel
theorem dL_law_2453 : decode cL_law 2453 = .ok (.iaload, 1) := by decide +kernel
theorem dL_law_2454 : decode cL_law 2454 = .ok (.aload_n 3, 1) := by decide +kernel
theorem dL_law_2455 : decode cL_law 2455 = .ok (.invokestatic 268, 3) := by decide +kernel
theorem dL_law_2458 : decode cL_law 2458 = .ok (.istore 6, 2) := by decide +kernel
theorem dL_law_2460 : decode cL_law 2460 = .ok (.aload_n 2, 1) := by decide +kernel
theorem dL_law_2461 : decode cL_law 2461 = .ok (.aload_n 0, 1) := by decide +kernel
theorem dL_law_2462 : decode cL_law 2462 = .ok (.iload 5, 2) := by decide +kernel
theorem dL_law_2464 : decode cL_law 2464 = .ok (.iconst 1, 1) := by decide +kernel
theorem dL_law_2465 : decode cL_law 2465 = .ok (.iadd, 1) := by decide +kernel
theorem dL_law_2466 : decode cL_law 2466 = .ok (.iaload, 1) := by decide +kernel
theorem dL_law_2467 : decode cL_law 2467 = .ok (.invokevirtual 270, 3) := by decide +kernel
theorem dL_law_2470 : decode cL_law 2470 = .ok (.istore 7, 2) := by decide +kernel
theorem dL_law_2472 : decode cL_law 2472 = .ok (.aload_n 2, 1) := by decide +kernel
theorem dL_law_2473 : decode cL_law 2473 = .ok (.invokevirtual 149, 3) := by decide +kernel
theorem dL_law_2476 : decode cL_law 2476 = .ok (.iload 6, 2) := by decide +kernel
theorem dL_law_2478 : decode cL_law 2478 = .ok (.if_icmp .eq 5, 3) := by decide +kernel
theorem dL_law_2481 : decode cL_law 2481 = .ok (.iconst 0, 1) := by decide +kernel
theorem dL_law_2482 : decode cL_law 2482 = .ok (.ireturn, 1) := by decide +kernel
theorem dL_law_2483 : decode cL_law 2483 = .ok (.iload 6, 2) := by decide +kernel
theorem dL_law_2485 : decode cL_law 2485 = .ok (.ifCond .ne 15, 3) := by decide +kernel
theorem dL_law_2488 : decode cL_law 2488 = .ok (.aload_n 3, 1) := by decide +kernel
theorem dL_law_2489 : decode cL_law 2489 = .ok (.iconst 0, 1) := by decide +kernel
theorem dL_law_2490 : decode cL_law 2490 = .ok (.laload, 1) := by decide +kernel
theorem dL_law_2491 : decode cL_law 2491 = .ok (.iload 7, 2) := by decide +kernel
theorem dL_law_2493 : decode cL_law 2493 = .ok (.i2l, 1) := by decide +kernel
theorem dL_law_2494 : decode cL_law 2494 = .ok (.lcmp, 1) := by decide +kernel
theorem dL_law_2495 : decode cL_law 2495 = .ok (.ifCond .eq 5, 3) := by decide +kernel
theorem dL_law_2498 : decode cL_law 2498 = .ok (.iconst 0, 1) := by decide +kernel
theorem dL_law_2499 : decode cL_law 2499 = .ok (.ireturn, 1) := by decide +kernel
theorem dL_law_2500 : decode cL_law 2500 = .ok (.goto 237, 3) := by decide +kernel
theorem dL_law_2503 : decode cL_law 2503 = .ok (.aload_n 1, 1) := by decide +kernel
theorem dL_law_2504 : decode cL_law 2504 = .ok (.aload_n 0, 1) := by decide +kernel
theorem dL_law_2505 : decode cL_law 2505 = .ok (.iload 5, 2) := by decide +kernel
theorem dL_law_2507 : decode cL_law 2507 = .ok (.iconst 1, 1) := by decide +kernel
theorem dL_law_2508 : decode cL_law 2508 = .ok (.iadd, 1) := by decide +kernel
theorem dL_law_2509 : decode cL_law 2509 = .ok (.iaload, 1) := by decide +kernel
theorem dL_law_2510 : decode cL_law 2510 = .ok (.aload_n 3, 1) := by decide +kernel
theorem dL_law_2511 : decode cL_law 2511 = .ok (.invokestatic 271, 3) := by decide +kernel
theorem dL_law_2514 : decode cL_law 2514 = .ok (.istore 6, 2) := by decide +kernel
theorem dL_law_2516 : decode cL_law 2516 = .ok (.aload_n 2, 1) := by decide +kernel
theorem dL_law_2517 : decode cL_law 2517 = .ok (.aload_n 0, 1) := by decide +kernel
theorem dL_law_2518 : decode cL_law 2518 = .ok (.iload 5, 2) := by decide +kernel
theorem dL_law_2520 : decode cL_law 2520 = .ok (.iconst 1, 1) := by decide +kernel
theorem dL_law_2521 : decode cL_law 2521 = .ok (.iadd, 1) := by decide +kernel
theorem dL_law_2522 : decode cL_law 2522 = .ok (.iaload, 1) := by decide +kernel
theorem dL_law_2523 : decode cL_law 2523 = .ok (.invokevirtual 273, 3) := by decide +kernel
theorem dL_law_2526 : decode cL_law 2526 = .ok (.istore 7, 2) := by decide +kernel
theorem dL_law_2528 : decode cL_law 2528 = .ok (.aload_n 2, 1) := by decide +kernel
theorem dL_law_2529 : decode cL_law 2529 = .ok (.invokevirtual 149, 3) := by decide +kernel
theorem dL_law_2532 : decode cL_law 2532 = .ok (.iload 6, 2) := by decide +kernel
theorem dL_law_2534 : decode cL_law 2534 = .ok (.if_icmp .eq 5, 3) := by decide +kernel
theorem dL_law_2537 : decode cL_law 2537 = .ok (.iconst 0, 1) := by decide +kernel
theorem dL_law_2538 : decode cL_law 2538 = .ok (.ireturn, 1) := by decide +kernel
theorem dL_law_2539 : decode cL_law 2539 = .ok (.iload 6, 2) := by decide +kernel
theorem dL_law_2541 : decode cL_law 2541 = .ok (.ifCond .ne 22, 3) := by decide +kernel
theorem dL_law_2544 : decode cL_law 2544 = .ok (.aload_n 3, 1) := by decide +kernel
theorem dL_law_2545 : decode cL_law 2545 = .ok (.iconst 0, 1) := by decide +kernel
theorem dL_law_2546 : decode cL_law 2546 = .ok (.laload, 1) := by decide +kernel
theorem dL_law_2547 : decode cL_law 2547 = .ok (.iload 7, 2) := by decide +kernel
theorem dL_law_2549 : decode cL_law 2549 = .ok (.ifCond .eq 7, 3) := by decide +kernel
theorem dL_law_2552 : decode cL_law 2552 = .ok (.lconst 1, 1) := by decide +kernel
theorem dL_law_2553 : decode cL_law 2553 = .ok (.goto 4, 3) := by decide +kernel
theorem dL_law_2556 : decode cL_law 2556 = .ok (.lconst 0, 1) := by decide +kernel
theorem dL_law_2557 : decode cL_law 2557 = .ok (.lcmp, 1) := by decide +kernel
theorem dL_law_2558 : decode cL_law 2558 = .ok (.ifCond .eq 5, 3) := by decide +kernel
theorem dL_law_2561 : decode cL_law 2561 = .ok (.iconst 0, 1) := by decide +kernel
theorem dL_law_2562 : decode cL_law 2562 = .ok (.ireturn, 1) := by decide +kernel
theorem dL_law_2563 : decode cL_law 2563 = .ok (.goto 174, 3) := by decide +kernel
theorem dL_law_2566 : decode cL_law 2566 = .ok (.aload_n 1, 1) := by decide +kernel
theorem dL_law_2567 : decode cL_law 2567 = .ok (.invokevirtual 274, 3) := by decide +kernel
theorem dL_law_2570 : decode cL_law 2570 = .ok (.aload_n 2, 1) := by decide +kernel
theorem dL_law_2571 : decode cL_law 2571 = .ok (.invokevirtual 277, 3) := by decide +kernel
theorem dL_law_2574 : decode cL_law 2574 = .ok (.if_icmp .eq 163, 3) := by decide +kernel
theorem dL_law_2577 : decode cL_law 2577 = .ok (.iconst 0, 1) := by decide +kernel
theorem dL_law_2578 : decode cL_law 2578 = .ok (.ireturn, 1) := by decide +kernel
theorem dL_law_2579 : decode cL_law 2579 = .ok (.aload_n 1, 1) := by decide +kernel
theorem dL_law_2580 : decode cL_law 2580 = .ok (.invokevirtual 278, 3) := by decide +kernel
theorem dL_law_2583 : decode cL_law 2583 = .ok (.aload_n 2, 1) := by decide +kernel
theorem dL_law_2584 : decode cL_law 2584 = .ok (.invokevirtual 282, 3) := by decide +kernel
theorem dL_law_2587 : decode cL_law 2587 = .ok (.lcmp, 1) := by decide +kernel
theorem dL_law_2588 : decode cL_law 2588 = .ok (.ifCond .eq 149, 3) := by decide +kernel
theorem dL_law_2591 : decode cL_law 2591 = .ok (.iconst 0, 1) := by decide +kernel
theorem dL_law_2592 : decode cL_law 2592 = .ok (.ireturn, 1) := by decide +kernel
theorem dL_law_2593 : decode cL_law 2593 = .ok (.aload_n 1, 1) := by decide +kernel
theorem dL_law_2594 : decode cL_law 2594 = .ok (.aload 4, 2) := by decide +kernel
theorem dL_law_2596 : decode cL_law 2596 = .ok (.invokestatic 283, 3) := by decide +kernel
theorem dL_law_2599 : decode cL_law 2599 = .ok (.istore 6, 2) := by decide +kernel
theorem dL_law_2601 : decode cL_law 2601 = .ok (.aload_n 2, 1) := by decide +kernel
theorem dL_law_2602 : decode cL_law 2602 = .ok (.invokevirtual 286, 3) := by decide +kernel
theorem dL_law_2605 : decode cL_law 2605 = .ok (.fstore 7, 2) := by decide +kernel
theorem dL_law_2607 : decode cL_law 2607 = .ok (.aload_n 2, 1) := by decide +kernel
theorem dL_law_2608 : decode cL_law 2608 = .ok (.invokevirtual 149, 3) := by decide +kernel
theorem dL_law_2611 : decode cL_law 2611 = .ok (.iload 6, 2) := by decide +kernel
theorem dL_law_2613 : decode cL_law 2613 = .ok (.if_icmp .eq 5, 3) := by decide +kernel
theorem dL_law_2616 : decode cL_law 2616 = .ok (.iconst 0, 1) := by decide +kernel
theorem dL_law_2617 : decode cL_law 2617 = .ok (.ireturn, 1) := by decide +kernel
theorem dL_law_2618 : decode cL_law 2618 = .ok (.iload 6, 2) := by decide +kernel
theorem dL_law_2620 : decode cL_law 2620 = .ok (.ifCond .ne 36, 3) := by decide +kernel
theorem dL_law_2623 : decode cL_law 2623 = .ok (.aload 4, 2) := by decide +kernel
theorem dL_law_2625 : decode cL_law 2625 = .ok (.iconst 0, 1) := by decide +kernel
theorem dL_law_2626 : decode cL_law 2626 = .ok (.daload, 1) := by decide +kernel
theorem dL_law_2627 : decode cL_law 2627 = .ok (.fload 7, 2) := by decide +kernel
theorem dL_law_2629 : decode cL_law 2629 = .ok (.f2d, 1) := by decide +kernel
theorem dL_law_2630 : decode cL_law 2630 = .ok (.dcmp .l, 1) := by decide +kernel
theorem dL_law_2631 : decode cL_law 2631 = .ok (.ifCond .eq 25, 3) := by decide +kernel
theorem dL_law_2634 : decode cL_law 2634 = .ok (.aload 4, 2) := by decide +kernel
theorem dL_law_2636 : decode cL_law 2636 = .ok (.iconst 0, 1) := by decide +kernel
theorem dL_law_2637 : decode cL_law 2637 = .ok (.daload, 1) := by decide +kernel
theorem dL_law_2638 : decode cL_law 2638 = .ok (.aload 4, 2) := by decide +kernel
theorem dL_law_2640 : decode cL_law 2640 = .ok (.iconst 0, 1) := by decide +kernel
theorem dL_law_2641 : decode cL_law 2641 = .ok (.daload, 1) := by decide +kernel
theorem dL_law_2642 : decode cL_law 2642 = .ok (.dcmp .l, 1) := by decide +kernel
theorem dL_law_2643 : decode cL_law 2643 = .ok (.ifCond .eq 11, 3) := by decide +kernel
theorem dL_law_2646 : decode cL_law 2646 = .ok (.fload 7, 2) := by decide +kernel
theorem dL_law_2648 : decode cL_law 2648 = .ok (.fload 7, 2) := by decide +kernel
theorem dL_law_2650 : decode cL_law 2650 = .ok (.fcmp .l, 1) := by decide +kernel
theorem dL_law_2651 : decode cL_law 2651 = .ok (.ifCond .ne 5, 3) := by decide +kernel
theorem dL_law_2654 : decode cL_law 2654 = .ok (.iconst 0, 1) := by decide +kernel
theorem dL_law_2655 : decode cL_law 2655 = .ok (.ireturn, 1) := by decide +kernel
theorem dL_law_2656 : decode cL_law 2656 = .ok (.goto 81, 3) := by decide +kernel
theorem dL_law_2659 : decode cL_law 2659 = .ok (.aload_n 1, 1) := by decide +kernel
theorem dL_law_2660 : decode cL_law 2660 = .ok (.aload 4, 2) := by decide +kernel
theorem dL_law_2662 : decode cL_law 2662 = .ok (.invokestatic 287, 3) := by decide +kernel
theorem dL_law_2665 : decode cL_law 2665 = .ok (.istore 6, 2) := by decide +kernel
theorem dL_law_2667 : decode cL_law 2667 = .ok (.aload_n 2, 1) := by decide +kernel
theorem dL_law_2668 : decode cL_law 2668 = .ok (.invokevirtual 289, 3) := by decide +kernel
theorem dL_law_2671 : decode cL_law 2671 = .ok (.dstore 7, 2) := by decide +kernel
theorem dL_law_2673 : decode cL_law 2673 = .ok (.aload_n 2, 1) := by decide +kernel
theorem dL_law_2674 : decode cL_law 2674 = .ok (.invokevirtual 149, 3) := by decide +kernel
theorem dL_law_2677 : decode cL_law 2677 = .ok (.iload 6, 2) := by decide +kernel
theorem dL_law_2679 : decode cL_law 2679 = .ok (.if_icmp .eq 5, 3) := by decide +kernel
theorem dL_law_2682 : decode cL_law 2682 = .ok (.iconst 0, 1) := by decide +kernel
theorem dL_law_2683 : decode cL_law 2683 = .ok (.ireturn, 1) := by decide +kernel
theorem dL_law_2684 : decode cL_law 2684 = .ok (.iload 6, 2) := by decide +kernel
theorem dL_law_2686 : decode cL_law 2686 = .ok (.ifCond .ne 35, 3) := by decide +kernel
theorem dL_law_2689 : decode cL_law 2689 = .ok (.aload 4, 2) := by decide +kernel
theorem dL_law_2691 : decode cL_law 2691 = .ok (.iconst 0, 1) := by decide +kernel
theorem dL_law_2692 : decode cL_law 2692 = .ok (.daload, 1) := by decide +kernel
theorem dL_law_2693 : decode cL_law 2693 = .ok (.dload 7, 2) := by decide +kernel
theorem dL_law_2695 : decode cL_law 2695 = .ok (.dcmp .l, 1) := by decide +kernel
theorem dL_law_2696 : decode cL_law 2696 = .ok (.ifCond .eq 25, 3) := by decide +kernel
theorem dL_law_2699 : decode cL_law 2699 = .ok (.aload 4, 2) := by decide +kernel
theorem dL_law_2701 : decode cL_law 2701 = .ok (.iconst 0, 1) := by decide +kernel
theorem dL_law_2702 : decode cL_law 2702 = .ok (.daload, 1) := by decide +kernel
theorem dL_law_2703 : decode cL_law 2703 = .ok (.aload 4, 2) := by decide +kernel
theorem dL_law_2705 : decode cL_law 2705 = .ok (.iconst 0, 1) := by decide +kernel
theorem dL_law_2706 : decode cL_law 2706 = .ok (.daload, 1) := by decide +kernel
theorem dL_law_2707 : decode cL_law 2707 = .ok (.dcmp .l, 1) := by decide +kernel
theorem dL_law_2708 : decode cL_law 2708 = .ok (.ifCond .eq 11, 3) := by decide +kernel
theorem dL_law_2711 : decode cL_law 2711 = .ok (.dload 7, 2) := by decide +kernel
theorem dL_law_2713 : decode cL_law 2713 = .ok (.dload 7, 2) := by decide +kernel
theorem dL_law_2715 : decode cL_law 2715 = .ok (.dcmp .l, 1) := by decide +kernel
theorem dL_law_2716 : decode cL_law 2716 = .ok (.ifCond .ne 5, 3) := by decide +kernel
theorem dL_law_2719 : decode cL_law 2719 = .ok (.iconst 0, 1) := by decide +kernel
theorem dL_law_2720 : decode cL_law 2720 = .ok (.ireturn, 1) := by decide +kernel
theorem dL_law_2721 : decode cL_law 2721 = .ok (.goto 16, 3) := by decide +kernel
theorem dL_law_2724 : decode cL_law 2724 = .ok (.aload_n 1, 1) := by decide +kernel
theorem dL_law_2725 : decode cL_law 2725 = .ok (.invokevirtual 290, 3) := by decide +kernel
theorem dL_law_2728 : decode cL_law 2728 = .ok (.aload_n 2, 1) := by decide +kernel
theorem dL_law_2729 : decode cL_law 2729 = .ok (.invokevirtual 293, 3) := by decide +kernel
theorem dL_law_2732 : decode cL_law 2732 = .ok (.if_icmp .eq 5, 3) := by decide +kernel
theorem dL_law_2735 : decode cL_law 2735 = .ok (.iconst 0, 1) := by decide +kernel
theorem dL_law_2736 : decode cL_law 2736 = .ok (.ireturn, 1) := by decide +kernel
theorem dL_law_2737 : decode cL_law 2737 = .ok (.iinc 5 5, 3) := by decide +kernel
theorem dL_law_2740 : decode cL_law 2740 = .ok (.goto (-2712), 3) := by decide +kernel
theorem dL_law_2743 : decode cL_law 2743 = .ok (.iconst 1, 1) := by decide +kernel
theorem dL_law_2744 : decode cL_law 2744 = .ok (.ireturn, 1) := by decide +kernel
