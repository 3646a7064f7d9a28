theorem dX11_init_0 : decode cX11_init 0 = .ok (.aload_n 0, 1) := by decide +kernel
theorem dX11_init_1 : decode cX11_init 1 = .ok (.invokespecial 1, 3) := by decide +kernel
theorem dX11_init_4 : decode cX11_init 4 = .ok (.aload_n 0, 1) := by decide +kernel
theorem dX11_init_5 : decode cX11_init 5 = .ok (.new 7, 3) := by decide +kernel
theorem dX11_init_8 : decode cX11_init 8 = .ok (.dup, 1) := by decide +kernel
theorem dX11_init_9 : decode cX11_init 9 = .ok (.invokespecial 9, 3) := by decide +kernel
theorem dX11_init_12 : decode cX11_init 12 = .ok (.putfield 10, 3) := by decide +kernel
theorem dX11_init_15 : decode cX11_init 15 = .ok (.aload_n 0, 1) := by decide +kernel
theorem dX11_init_16 : decode cX11_init 16 = .ok (.new 7, 3) := by decide +kernel
theorem dX11_init_19 : decode cX11_init 19 = .ok (.dup, 1) := by decide +kernel
theorem dX11_init_20 : decode cX11_init 20 = .ok (.invokespecial 9, 3) := by decide +kernel
theorem dX11_init_23 : decode cX11_init 23 = .ok (.putfield 16, 3) := by decide +kernel
theorem dX11_init_26 : decode cX11_init 26 = .ok (.aload_n 0, 1) := by decide +kernel
theorem dX11_init_27 : decode cX11_init 27 = .ok (.new 7, 3) := by decide +kernel
theorem dX11_init_30 : decode cX11_init 30 = .ok (.dup, 1) := by decide +kernel
theorem dX11_init_31 : decode cX11_init 31 = .ok (.invokespecial 9, 3) := by decide +kernel
theorem dX11_init_34 : decode cX11_init 34 = .ok (.putfield 19, 3) := by decide +kernel
theorem dX11_init_37 : decode cX11_init 37 = .ok (.aload_n 0, 1) := by decide +kernel
theorem dX11_init_38 : decode cX11_init 38 = .ok (.bipush 7, 2) := by decide +kernel
theorem dX11_init_40 : decode cX11_init 40 = .ok (.newarray .int, 2) := by decide +kernel
theorem dX11_init_42 : decode cX11_init 42 = .ok (.dup, 1) := by decide +kernel
theorem dX11_init_43 : decode cX11_init 43 = .ok (.iconst 0, 1) := by decide +kernel
theorem dX11_init_44 : decode cX11_init 44 = .ok (.iconst 0, 1) := by decide +kernel
theorem dX11_init_45 : decode cX11_init 45 = .ok (.iastore, 1) := by decide +kernel
theorem dX11_init_46 : decode cX11_init 46 = .ok (.dup, 1) := by decide +kernel
theorem dX11_init_47 : decode cX11_init 47 = .ok (.iconst 1, 1) := by decide +kernel
theorem dX11_init_48 : decode cX11_init 48 = .ok (.iconst 1, 1) := by decide +kernel
theorem dX11_init_49 : decode cX11_init 49 = .ok (.iastore, 1) := by decide +kernel
theorem dX11_init_50 : decode cX11_init 50 = .ok (.dup, 1) := by decide +kernel
theorem dX11_init_51 : decode cX11_init 51 = .ok (.iconst 2, 1) := by decide +kernel
theorem dX11_init_52 : decode cX11_init 52 = .ok (.iconst 2, 1) := by decide +kernel
theorem dX11_init_53 : decode cX11_init 53 = .ok (.iastore, 1) := by decide +kernel
theorem dX11_init_54 : decode cX11_init 54 = .ok (.dup, 1) := by decide +kernel
theorem dX11_init_55 : decode cX11_init 55 = .ok (.iconst 3, 1) := by decide +kernel
theorem dX11_init_56 : decode cX11_init 56 = .ok (.iconst 3, 1) := by decide +kernel
theorem dX11_init_57 : decode cX11_init 57 = .ok (.iastore, 1) := by decide +kernel
theorem dX11_init_58 : decode cX11_init 58 = .ok (.dup, 1) := by decide +kernel
theorem dX11_init_59 : decode cX11_init 59 = .ok (.iconst 4, 1) := by decide +kernel
theorem dX11_init_60 : decode cX11_init 60 = .ok (.iconst 4, 1) := by decide +kernel
theorem dX11_init_61 : decode cX11_init 61 = .ok (.iastore, 1) := by decide +kernel
theorem dX11_init_62 : decode cX11_init 62 = .ok (.dup, 1) := by decide +kernel
theorem dX11_init_63 : decode cX11_init 63 = .ok (.iconst 5, 1) := by decide +kernel
theorem dX11_init_64 : decode cX11_init 64 = .ok (.iconst 5, 1) := by decide +kernel
theorem dX11_init_65 : decode cX11_init 65 = .ok (.iastore, 1) := by decide +kernel
theorem dX11_init_66 : decode cX11_init 66 = .ok (.dup, 1) := by decide +kernel
theorem dX11_init_67 : decode cX11_init 67 = .ok (.bipush 6, 2) := by decide +kernel
theorem dX11_init_69 : decode cX11_init 69 = .ok (.bipush 6, 2) := by decide +kernel
theorem dX11_init_71 : decode cX11_init 71 = .ok (.iastore, 1) := by decide +kernel
theorem dX11_init_72 : decode cX11_init 72 = .ok (.putfield 22, 3) := by decide +kernel
theorem dX11_init_75 : decode cX11_init 75 = .ok (.return_, 1) := by decide +kernel
theorem dX11_thrown_0 : decode cX11_thrown 0 = .ok (.aload_n 0, 1) := by decide +kernel
theorem dX11_thrown_1 : decode cX11_thrown 1 = .ok (.getfield 26, 3) := by decide +kernel
theorem dX11_thrown_4 : decode cX11_thrown 4 = .ok (.ireturn, 1) := by decide +kernel
theorem dX11_no_0 : decode cX11_no 0 = .ok (.aload_n 0, 1) := by decide +kernel
theorem dX11_no_1 : decode cX11_no 1 = .ok (.iload_n 1, 1) := by decide +kernel
theorem dX11_no_2 : decode cX11_no 2 = .ok (.ifCond .eq 7, 3) := by decide +kernel
theorem dX11_no_5 : decode cX11_no 5 = .ok (.iconst 0, 1) := by decide +kernel
theorem dX11_no_6 : decode cX11_no 6 = .ok (.goto 4, 3) := by decide +kernel
theorem dX11_no_9 : decode cX11_no 9 = .ok (.iload_n 2, 1) := by decide +kernel
theorem dX11_no_10 : decode cX11_no 10 = .ok (.putfield 26, 3) := by decide +kernel
theorem dX11_no_13 : decode cX11_no 13 = .ok (.iload_n 1, 1) := by decide +kernel
theorem dX11_no_14 : decode cX11_no 14 = .ok (.ifCond .ne 7, 3) := by decide +kernel
theorem dX11_no_17 : decode cX11_no 17 = .ok (.iconst 1, 1) := by decide +kernel
theorem dX11_no_18 : decode cX11_no 18 = .ok (.goto 4, 3) := by decide +kernel
theorem dX11_no_21 : decode cX11_no 21 = .ok (.iconst 0, 1) := by decide +kernel
theorem dX11_no_22 : decode cX11_no 22 = .ok (.ireturn, 1) := by decide +kernel
theorem dX11_isIn_0 : decode cX11_isIn 0 = .ok (.iload_n 0, 1) := by decide +kernel
theorem dX11_isIn_1 : decode cX11_isIn 1 = .ok (.iload_n 1, 1) := by decide +kernel
theorem dX11_isIn_2 : decode cX11_isIn 2 = .ok (.if_icmp .lt 12, 3) := by decide +kernel
theorem dX11_isIn_5 : decode cX11_isIn 5 = .ok (.iload_n 0, 1) := by decide +kernel
theorem dX11_isIn_6 : decode cX11_isIn 6 = .ok (.iload_n 2, 1) := by decide +kernel
theorem dX11_isIn_7 : decode cX11_isIn 7 = .ok (.if_icmp .gt 7, 3) := by decide +kernel
theorem dX11_isIn_10 : decode cX11_isIn 10 = .ok (.iconst 1, 1) := by decide +kernel
theorem dX11_isIn_11 : decode cX11_isIn 11 = .ok (.goto 4, 3) := by decide +kernel
theorem dX11_isIn_14 : decode cX11_isIn 14 = .ok (.iconst 0, 1) := by decide +kernel
theorem dX11_isIn_15 : decode cX11_isIn 15 = .ok (.ireturn, 1) := by decide +kernel
theorem dX11_isCondition_0 : decode cX11_isCondition 0 = .ok (.iload_n 1, 1) := by decide +kernel
theorem dX11_isCondition_1 : decode cX11_isCondition 1 = .ok (.iconst 0, 1) := by decide +kernel
theorem dX11_isCondition_2 : decode cX11_isCondition 2 = .ok (.aload_n 0, 1) := by decide +kernel
theorem dX11_isCondition_3 : decode cX11_isCondition 3 = .ok (.getfield 10, 3) := by decide +kernel
theorem dX11_isCondition_6 : decode cX11_isCondition 6 = .ok (.invokeinterface 30 1, 5) := by decide +kernel
theorem dX11_isCondition_11 : decode cX11_isCondition 11 = .ok (.iconst 1, 1) := by decide +kernel
theorem dX11_isCondition_12 : decode cX11_isCondition 12 = .ok (.isub, 1) := by decide +kernel
theorem dX11_isCondition_13 : decode cX11_isCondition 13 = .ok (.invokestatic 36, 3) := by decide +kernel
theorem dX11_isCondition_16 : decode cX11_isCondition 16 = .ok (.ireturn, 1) := by decide +kernel
theorem dX11_isName_0 : decode cX11_isName 0 = .ok (.iload_n 1, 1) := by decide +kernel
theorem dX11_isName_1 : decode cX11_isName 1 = .ok (.iconst 0, 1) := by decide +kernel
theorem dX11_isName_2 : decode cX11_isName 2 = .ok (.aload_n 0, 1) := by decide +kernel
theorem dX11_isName_3 : decode cX11_isName 3 = .ok (.getfield 16, 3) := by decide +kernel
theorem dX11_isName_6 : decode cX11_isName 6 = .ok (.invokeinterface 30 1, 5) := by decide +kernel
theorem dX11_isName_11 : decode cX11_isName 11 = .ok (.iconst 1, 1) := by decide +kernel
theorem dX11_isName_12 : decode cX11_isName 12 = .ok (.isub, 1) := by decide +kernel
theorem dX11_isName_13 : decode cX11_isName 13 = .ok (.invokestatic 36, 3) := by decide +kernel
theorem dX11_isName_16 : decode cX11_isName 16 = .ok (.ireturn, 1) := by decide +kernel
theorem dX11_isFormula_0 : decode cX11_isFormula 0 = .ok (.iload_n 1, 1) := by decide +kernel
theorem dX11_isFormula_1 : decode cX11_isFormula 1 = .ok (.iconst 0, 1) := by decide +kernel
theorem dX11_isFormula_2 : decode cX11_isFormula 2 = .ok (.aload_n 0, 1) := by decide +kernel
theorem dX11_isFormula_3 : decode cX11_isFormula 3 = .ok (.getfield 19, 3) := by decide +kernel
theorem dX11_isFormula_6 : decode cX11_isFormula 6 = .ok (.invokeinterface 30 1, 5) := by decide +kernel
theorem dX11_isFormula_11 : decode cX11_isFormula 11 = .ok (.iconst 1, 1) := by decide +kernel
theorem dX11_isFormula_12 : decode cX11_isFormula 12 = .ok (.isub, 1) := by decide +kernel
theorem dX11_isFormula_13 : decode cX11_isFormula 13 = .ok (.invokestatic 36, 3) := by decide +kernel
theorem dX11_isFormula_16 : decode cX11_isFormula 16 = .ok (.ireturn, 1) := by decide +kernel
theorem dX11_isSet_0 : decode cX11_isSet 0 = .ok (.iload_n 1, 1) := by decide +kernel
theorem dX11_isSet_1 : decode cX11_isSet 1 = .ok (.iconst 0, 1) := by decide +kernel
theorem dX11_isSet_2 : decode cX11_isSet 2 = .ok (.iconst 1, 1) := by decide +kernel
theorem dX11_isSet_3 : decode cX11_isSet 3 = .ok (.aload_n 0, 1) := by decide +kernel
theorem dX11_isSet_4 : decode cX11_isSet 4 = .ok (.getfield 10, 3) := by decide +kernel
theorem dX11_isSet_7 : decode cX11_isSet 7 = .ok (.invokeinterface 30 1, 5) := by decide +kernel
theorem dX11_isSet_12 : decode cX11_isSet 12 = .ok (.ishl, 1) := by decide +kernel
theorem dX11_isSet_13 : decode cX11_isSet 13 = .ok (.iconst 1, 1) := by decide +kernel
theorem dX11_isSet_14 : decode cX11_isSet 14 = .ok (.isub, 1) := by decide +kernel
theorem dX11_isSet_15 : decode cX11_isSet 15 = .ok (.invokestatic 36, 3) := by decide +kernel
theorem dX11_isSet_18 : decode cX11_isSet 18 = .ok (.ireturn, 1) := by decide +kernel
theorem dX11_has_0 : decode cX11_has 0 = .ok (.iload_n 0, 1) := by decide +kernel
theorem dX11_has_1 : decode cX11_has 1 = .ok (.iload_n 1, 1) := by decide +kernel
theorem dX11_has_2 : decode cX11_has 2 = .ok (.ishr, 1) := by decide +kernel
theorem dX11_has_3 : decode cX11_has 3 = .ok (.iconst 1, 1) := by decide +kernel
theorem dX11_has_4 : decode cX11_has 4 = .ok (.iand, 1) := by decide +kernel
theorem dX11_has_5 : decode cX11_has 5 = .ok (.iconst 1, 1) := by decide +kernel
theorem dX11_has_6 : decode cX11_has 6 = .ok (.if_icmp .ne 7, 3) := by decide +kernel
theorem dX11_has_9 : decode cX11_has 9 = .ok (.iconst 1, 1) := by decide +kernel
theorem dX11_has_10 : decode cX11_has 10 = .ok (.goto 4, 3) := by decide +kernel
theorem dX11_has_13 : decode cX11_has 13 = .ok (.iconst 0, 1) := by decide +kernel
theorem dX11_has_14 : decode cX11_has 14 = .ok (.ireturn, 1) := by decide +kernel
theorem dX11_condition_0 : decode cX11_condition 0 = .ok (.aload_n 0, 1) := by decide +kernel
theorem dX11_condition_1 : decode cX11_condition 1 = .ok (.aload_n 0, 1) := by decide +kernel
theorem dX11_condition_2 : decode cX11_condition 2 = .ok (.getfield 10, 3) := by decide +kernel
theorem dX11_condition_5 : decode cX11_condition 5 = .ok (.invokeinterface 30 1, 5) := by decide +kernel
theorem dX11_condition_10 : decode cX11_condition 10 = .ok (.bipush 7, 2) := by decide +kernel
theorem dX11_condition_12 : decode cX11_condition 12 = .ok (.if_icmp .ge 7, 3) := by decide +kernel
theorem dX11_condition_15 : decode cX11_condition 15 = .ok (.iconst 1, 1) := by decide +kernel
theorem dX11_condition_16 : decode cX11_condition 16 = .ok (.goto 4, 3) := by decide +kernel
theorem dX11_condition_19 : decode cX11_condition 19 = .ok (.iconst 0, 1) := by decide +kernel
theorem dX11_condition_20 : decode cX11_condition 20 = .ok (.iconst 1, 1) := by decide +kernel
theorem dX11_condition_21 : decode cX11_condition 21 = .ok (.invokevirtual 40, 3) := by decide +kernel
theorem dX11_condition_24 : decode cX11_condition 24 = .ok (.ifCond .eq 5, 3) := by decide +kernel
theorem dX11_condition_27 : decode cX11_condition 27 = .ok (.iconst 0, 1) := by decide +kernel
theorem dX11_condition_28 : decode cX11_condition 28 = .ok (.ireturn, 1) := by decide +kernel
theorem dX11_condition_29 : decode cX11_condition 29 = .ok (.aload_n 0, 1) := by decide +kernel
theorem dX11_condition_30 : decode cX11_condition 30 = .ok (.getfield 10, 3) := by decide +kernel
theorem dX11_condition_33 : decode cX11_condition 33 = .ok (.iconst 1, 1) := by decide +kernel
theorem dX11_condition_34 : decode cX11_condition 34 = .ok (.aload_n 0, 1) := by decide +kernel
theorem dX11_condition_35 : decode cX11_condition 35 = .ok (.getfield 10, 3) := by decide +kernel
theorem dX11_condition_38 : decode cX11_condition 38 = .ok (.invokeinterface 30 1, 5) := by decide +kernel
theorem dX11_condition_43 : decode cX11_condition 43 = .ok (.ishl, 1) := by decide +kernel
theorem dX11_condition_44 : decode cX11_condition 44 = .ok (.invokestatic 44, 3) := by decide +kernel
theorem dX11_condition_47 : decode cX11_condition 47 = .ok (.invokeinterface 50 2, 5) := by decide +kernel
theorem dX11_condition_52 : decode cX11_condition 52 = .ok (.pop, 1) := by decide +kernel
theorem dX11_condition_53 : decode cX11_condition 53 = .ok (.aload_n 0, 1) := by decide +kernel
theorem dX11_condition_54 : decode cX11_condition 54 = .ok (.getfield 10, 3) := by decide +kernel
theorem dX11_condition_57 : decode cX11_condition 57 = .ok (.invokeinterface 30 1, 5) := by decide +kernel
theorem dX11_condition_62 : decode cX11_condition 62 = .ok (.iconst 1, 1) := by decide +kernel
theorem dX11_condition_63 : decode cX11_condition 63 = .ok (.isub, 1) := by decide +kernel
theorem dX11_condition_64 : decode cX11_condition 64 = .ok (.ireturn, 1) := by decide +kernel
theorem dX11_isUnder_0 : decode cX11_isUnder 0 = .ok (.aload_n 0, 1) := by decide +kernel
theorem dX11_isUnder_1 : decode cX11_isUnder 1 = .ok (.getfield 10, 3) := by decide +kernel
theorem dX11_isUnder_4 : decode cX11_isUnder 4 = .ok (.iload_n 2, 1) := by decide +kernel
theorem dX11_isUnder_5 : decode cX11_isUnder 5 = .ok (.invokeinterface 54 2, 5) := by decide +kernel
theorem dX11_isUnder_10 : decode cX11_isUnder 10 = .ok (.checkcast 45, 3) := by decide +kernel
theorem dX11_isUnder_13 : decode cX11_isUnder 13 = .ok (.invokevirtual 58, 3) := by decide +kernel
theorem dX11_isUnder_16 : decode cX11_isUnder 16 = .ok (.iload_n 1, 1) := by decide +kernel
theorem dX11_isUnder_17 : decode cX11_isUnder 17 = .ok (.invokestatic 61, 3) := by decide +kernel
theorem dX11_isUnder_20 : decode cX11_isUnder 20 = .ok (.ireturn, 1) := by decide +kernel
theorem dX11_under_0 : decode cX11_under 0 = .ok (.aload_n 0, 1) := by decide +kernel
theorem dX11_under_1 : decode cX11_under 1 = .ok (.aload_n 0, 1) := by decide +kernel
theorem dX11_under_2 : decode cX11_under 2 = .ok (.iload_n 1, 1) := by decide +kernel
theorem dX11_under_3 : decode cX11_under 3 = .ok (.invokevirtual 65, 3) := by decide +kernel
theorem dX11_under_6 : decode cX11_under 6 = .ok (.ifCond .eq 15, 3) := by decide +kernel
theorem dX11_under_9 : decode cX11_under 9 = .ok (.aload_n 0, 1) := by decide +kernel
theorem dX11_under_10 : decode cX11_under 10 = .ok (.iload_n 2, 1) := by decide +kernel
theorem dX11_under_11 : decode cX11_under 11 = .ok (.invokevirtual 65, 3) := by decide +kernel
theorem dX11_under_14 : decode cX11_under 14 = .ok (.ifCond .eq 7, 3) := by decide +kernel
theorem dX11_under_17 : decode cX11_under 17 = .ok (.iconst 1, 1) := by decide +kernel
theorem dX11_under_18 : decode cX11_under 18 = .ok (.goto 4, 3) := by decide +kernel
theorem dX11_under_21 : decode cX11_under 21 = .ok (.iconst 0, 1) := by decide +kernel
theorem dX11_under_22 : decode cX11_under 22 = .ok (.iconst 1, 1) := by decide +kernel
theorem dX11_under_23 : decode cX11_under 23 = .ok (.invokevirtual 40, 3) := by decide +kernel
theorem dX11_under_26 : decode cX11_under 26 = .ok (.ifCond .ne 39, 3) := by decide +kernel
theorem dX11_under_29 : decode cX11_under 29 = .ok (.aload_n 0, 1) := by decide +kernel
theorem dX11_under_30 : decode cX11_under 30 = .ok (.iload_n 1, 1) := by decide +kernel
theorem dX11_under_31 : decode cX11_under 31 = .ok (.iload_n 2, 1) := by decide +kernel
theorem dX11_under_32 : decode cX11_under 32 = .ok (.if_icmp .eq 25, 3) := by decide +kernel
theorem dX11_under_35 : decode cX11_under 35 = .ok (.aload_n 0, 1) := by decide +kernel
theorem dX11_under_36 : decode cX11_under 36 = .ok (.iload_n 1, 1) := by decide +kernel
theorem dX11_under_37 : decode cX11_under 37 = .ok (.iload_n 2, 1) := by decide +kernel
theorem dX11_under_38 : decode cX11_under 38 = .ok (.invokevirtual 69, 3) := by decide +kernel
theorem dX11_under_41 : decode cX11_under 41 = .ok (.ifCond .ne 16, 3) := by decide +kernel
theorem dX11_under_44 : decode cX11_under 44 = .ok (.aload_n 0, 1) := by decide +kernel
theorem dX11_under_45 : decode cX11_under 45 = .ok (.iload_n 2, 1) := by decide +kernel
theorem dX11_under_46 : decode cX11_under 46 = .ok (.iload_n 1, 1) := by decide +kernel
theorem dX11_under_47 : decode cX11_under 47 = .ok (.invokevirtual 69, 3) := by decide +kernel
theorem dX11_under_50 : decode cX11_under 50 = .ok (.ifCond .ne 7, 3) := by decide +kernel
theorem dX11_under_53 : decode cX11_under 53 = .ok (.iconst 1, 1) := by decide +kernel
theorem dX11_under_54 : decode cX11_under 54 = .ok (.goto 4, 3) := by decide +kernel
theorem dX11_under_57 : decode cX11_under 57 = .ok (.iconst 0, 1) := by decide +kernel
theorem dX11_under_58 : decode cX11_under 58 = .ok (.iconst 2, 1) := by decide +kernel
theorem dX11_under_59 : decode cX11_under 59 = .ok (.invokevirtual 40, 3) := by decide +kernel
theorem dX11_under_62 : decode cX11_under 62 = .ok (.ifCond .eq 5, 3) := by decide +kernel
theorem dX11_under_65 : decode cX11_under 65 = .ok (.iconst 0, 1) := by decide +kernel
theorem dX11_under_66 : decode cX11_under 66 = .ok (.ireturn, 1) := by decide +kernel
theorem dX11_under_67 : decode cX11_under 67 = .ok (.iconst 0, 1) := by decide +kernel
theorem dX11_under_68 : decode cX11_under 68 = .ok (.istore_n 3, 1) := by decide +kernel
theorem dX11_under_69 : decode cX11_under 69 = .ok (.iconst 0, 1) := by decide +kernel
theorem dX11_under_70 : decode cX11_under 70 = .ok (.istore 4, 2) := by decide +kernel
theorem dX11_under_72 : decode cX11_under 72 = .ok (.iload 4, 2) := by decide +kernel
theorem dX11_under_74 : decode cX11_under 74 = .ok (.aload_n 0, 1) := by decide +kernel
theorem dX11_under_75 : decode cX11_under 75 = .ok (.getfield 10, 3) := by decide +kernel
theorem dX11_under_78 : decode cX11_under 78 = .ok (.invokeinterface 30 1, 5) := by decide +kernel
theorem dX11_under_83 : decode cX11_under 83 = .ok (.if_icmp .ge 68, 3) := by decide +kernel
theorem dX11_under_86 : decode cX11_under 86 = .ok (.aload_n 0, 1) := by decide +kernel
theorem dX11_under_87 : decode cX11_under 87 = .ok (.iload_n 2, 1) := by decide +kernel
theorem dX11_under_88 : decode cX11_under 88 = .ok (.iload 4, 2) := by decide +kernel
theorem dX11_under_90 : decode cX11_under 90 = .ok (.invokevirtual 69, 3) := by decide +kernel
theorem dX11_under_93 : decode cX11_under 93 = .ok (.ifCond .eq 52, 3) := by decide +kernel
theorem dX11_under_96 : decode cX11_under 96 = .ok (.aload_n 0, 1) := by decide +kernel
theorem dX11_under_97 : decode cX11_under 97 = .ok (.getfield 10, 3) := by decide +kernel
theorem dX11_under_100 : decode cX11_under 100 = .ok (.iload 4, 2) := by decide +kernel
theorem dX11_under_102 : decode cX11_under 102 = .ok (.aload_n 0, 1) := by decide +kernel
theorem dX11_under_103 : decode cX11_under 103 = .ok (.getfield 10, 3) := by decide +kernel
theorem dX11_under_106 : decode cX11_under 106 = .ok (.iload 4, 2) := by decide +kernel
theorem dX11_under_108 : decode cX11_under 108 = .ok (.invokeinterface 54 2, 5) := by decide +kernel
theorem dX11_under_113 : decode cX11_under 113 = .ok (.checkcast 45, 3) := by decide +kernel
theorem dX11_under_116 : decode cX11_under 116 = .ok (.invokevirtual 58, 3) := by decide +kernel
theorem dX11_under_119 : decode cX11_under 119 = .ok (.aload_n 0, 1) := by decide +kernel
theorem dX11_under_120 : decode cX11_under 120 = .ok (.getfield 10, 3) := by decide +kernel
theorem dX11_under_123 : decode cX11_under 123 = .ok (.iload_n 1, 1) := by decide +kernel
theorem dX11_under_124 : decode cX11_under 124 = .ok (.invokeinterface 54 2, 5) := by decide +kernel
theorem dX11_under_129 : decode cX11_under 129 = .ok (.checkcast 45, 3) := by decide +kernel
theorem dX11_under_132 : decode cX11_under 132 = .ok (.invokevirtual 58, 3) := by decide +kernel
theorem dX11_under_135 : decode cX11_under 135 = .ok (.ior, 1) := by decide +kernel
theorem dX11_under_136 : decode cX11_under 136 = .ok (.invokestatic 44, 3) := by decide +kernel
theorem dX11_under_139 : decode cX11_under 139 = .ok (.invokeinterface 72 3, 5) := by decide +kernel
theorem dX11_under_144 : decode cX11_under 144 = .ok (.pop, 1) := by decide +kernel
theorem dX11_under_145 : decode cX11_under 145 = .ok (.iinc 4 1, 3) := by decide +kernel
theorem dX11_under_148 : decode cX11_under 148 = .ok (.goto (-76), 3) := by decide +kernel
theorem dX11_under_151 : decode cX11_under 151 = .ok (.aload_n 0, 1) := by decide +kernel
theorem dX11_under_152 : decode cX11_under 152 = .ok (.getfield 10, 3) := by decide +kernel
theorem dX11_under_155 : decode cX11_under 155 = .ok (.invokeinterface 76 1, 5) := by decide +kernel
theorem dX11_under_160 : decode cX11_under 160 = .ok (.astore 4, 2) := by decide +kernel
theorem dX11_under_162 : decode cX11_under 162 = .ok (.aload 4, 2) := by decide +kernel
theorem dX11_under_164 : decode cX11_under 164 = .ok (.invokeinterface 80 1, 5) := by decide +kernel
theorem dX11_under_169 : decode cX11_under 169 = .ok (.ifCond .eq 31, 3) := by decide +kernel
theorem dX11_under_172 : decode cX11_under 172 = .ok (.aload 4, 2) := by decide +kernel
theorem dX11_under_174 : decode cX11_under 174 = .ok (.invokeinterface 86 1, 5) := by decide +kernel
theorem dX11_under_179 : decode cX11_under 179 = .ok (.checkcast 45, 3) := by decide +kernel
theorem dX11_under_182 : decode cX11_under 182 = .ok (.invokevirtual 58, 3) := by decide +kernel
theorem dX11_under_185 : decode cX11_under 185 = .ok (.istore 5, 2) := by decide +kernel
theorem dX11_under_187 : decode cX11_under 187 = .ok (.iload_n 3, 1) := by decide +kernel
theorem dX11_under_188 : decode cX11_under 188 = .ok (.iload 5, 2) := by decide +kernel
theorem dX11_under_190 : decode cX11_under 190 = .ok (.invokestatic 90, 3) := by decide +kernel
theorem dX11_under_193 : decode cX11_under 193 = .ok (.iconst 1, 1) := by decide +kernel
theorem dX11_under_194 : decode cX11_under 194 = .ok (.isub, 1) := by decide +kernel
theorem dX11_under_195 : decode cX11_under 195 = .ok (.iadd, 1) := by decide +kernel
theorem dX11_under_196 : decode cX11_under 196 = .ok (.istore_n 3, 1) := by decide +kernel
theorem dX11_under_197 : decode cX11_under 197 = .ok (.goto (-35), 3) := by decide +kernel
theorem dX11_under_200 : decode cX11_under 200 = .ok (.iload_n 3, 1) := by decide +kernel
theorem dX11_under_201 : decode cX11_under 201 = .ok (.ireturn, 1) := by decide +kernel
theorem dX11_isBelow_0 : decode cX11_isBelow 0 = .ok (.aload_n 0, 1) := by decide +kernel
theorem dX11_isBelow_1 : decode cX11_isBelow 1 = .ok (.aload_n 0, 1) := by decide +kernel
theorem dX11_isBelow_2 : decode cX11_isBelow 2 = .ok (.iload_n 1, 1) := by decide +kernel
theorem dX11_isBelow_3 : decode cX11_isBelow 3 = .ok (.invokevirtual 65, 3) := by decide +kernel
theorem dX11_isBelow_6 : decode cX11_isBelow 6 = .ok (.ifCond .eq 15, 3) := by decide +kernel
theorem dX11_isBelow_9 : decode cX11_isBelow 9 = .ok (.aload_n 0, 1) := by decide +kernel
theorem dX11_isBelow_10 : decode cX11_isBelow 10 = .ok (.iload_n 2, 1) := by decide +kernel
theorem dX11_isBelow_11 : decode cX11_isBelow 11 = .ok (.invokevirtual 65, 3) := by decide +kernel
theorem dX11_isBelow_14 : decode cX11_isBelow 14 = .ok (.ifCond .eq 7, 3) := by decide +kernel
theorem dX11_isBelow_17 : decode cX11_isBelow 17 = .ok (.iconst 1, 1) := by decide +kernel
theorem dX11_isBelow_18 : decode cX11_isBelow 18 = .ok (.goto 4, 3) := by decide +kernel
theorem dX11_isBelow_21 : decode cX11_isBelow 21 = .ok (.iconst 0, 1) := by decide +kernel
theorem dX11_isBelow_22 : decode cX11_isBelow 22 = .ok (.iconst 1, 1) := by decide +kernel
theorem dX11_isBelow_23 : decode cX11_isBelow 23 = .ok (.invokevirtual 40, 3) := by decide +kernel
theorem dX11_isBelow_26 : decode cX11_isBelow 26 = .ok (.ifCond .ne 16, 3) := by decide +kernel
theorem dX11_isBelow_29 : decode cX11_isBelow 29 = .ok (.aload_n 0, 1) := by decide +kernel
theorem dX11_isBelow_30 : decode cX11_isBelow 30 = .ok (.iload_n 1, 1) := by decide +kernel
theorem dX11_isBelow_31 : decode cX11_isBelow 31 = .ok (.iload_n 2, 1) := by decide +kernel
theorem dX11_isBelow_32 : decode cX11_isBelow 32 = .ok (.invokevirtual 69, 3) := by decide +kernel
theorem dX11_isBelow_35 : decode cX11_isBelow 35 = .ok (.ifCond .eq 7, 3) := by decide +kernel
theorem dX11_isBelow_38 : decode cX11_isBelow 38 = .ok (.iconst 1, 1) := by decide +kernel
theorem dX11_isBelow_39 : decode cX11_isBelow 39 = .ok (.goto 4, 3) := by decide +kernel
theorem dX11_isBelow_42 : decode cX11_isBelow 42 = .ok (.iconst 0, 1) := by decide +kernel
theorem dX11_isBelow_43 : decode cX11_isBelow 43 = .ok (.ireturn, 1) := by decide +kernel
theorem dX11_fits_0 : decode cX11_fits 0 = .ok (.aload_n 0, 1) := by decide +kernel
theorem dX11_fits_1 : decode cX11_fits 1 = .ok (.getfield 10, 3) := by decide +kernel
theorem dX11_fits_4 : decode cX11_fits 4 = .ok (.iload_n 1, 1) := by decide +kernel
theorem dX11_fits_5 : decode cX11_fits 5 = .ok (.invokeinterface 54 2, 5) := by decide +kernel
theorem dX11_fits_10 : decode cX11_fits 10 = .ok (.checkcast 45, 3) := by decide +kernel
theorem dX11_fits_13 : decode cX11_fits 13 = .ok (.invokevirtual 58, 3) := by decide +kernel
theorem dX11_fits_16 : decode cX11_fits 16 = .ok (.aload_n 0, 1) := by decide +kernel
theorem dX11_fits_17 : decode cX11_fits 17 = .ok (.getfield 10, 3) := by decide +kernel
theorem dX11_fits_20 : decode cX11_fits 20 = .ok (.iload_n 2, 1) := by decide +kernel
theorem dX11_fits_21 : decode cX11_fits 21 = .ok (.invokeinterface 54 2, 5) := by decide +kernel
theorem dX11_fits_26 : decode cX11_fits 26 = .ok (.checkcast 45, 3) := by decide +kernel
theorem dX11_fits_29 : decode cX11_fits 29 = .ok (.invokevirtual 58, 3) := by decide +kernel
theorem dX11_fits_32 : decode cX11_fits 32 = .ok (.iand, 1) := by decide +kernel
theorem dX11_fits_33 : decode cX11_fits 33 = .ok (.ifCond .eq 7, 3) := by decide +kernel
theorem dX11_fits_36 : decode cX11_fits 36 = .ok (.iconst 1, 1) := by decide +kernel
theorem dX11_fits_37 : decode cX11_fits 37 = .ok (.goto 4, 3) := by decide +kernel
theorem dX11_fits_40 : decode cX11_fits 40 = .ok (.iconst 0, 1) := by decide +kernel
theorem dX11_fits_41 : decode cX11_fits 41 = .ok (.ireturn, 1) := by decide +kernel
theorem dX11_fit_0 : decode cX11_fit 0 = .ok (.aload_n 0, 1) := by decide +kernel
theorem dX11_fit_1 : decode cX11_fit 1 = .ok (.aload_n 0, 1) := by decide +kernel
theorem dX11_fit_2 : decode cX11_fit 2 = .ok (.iload_n 1, 1) := by decide +kernel
theorem dX11_fit_3 : decode cX11_fit 3 = .ok (.invokevirtual 65, 3) := by decide +kernel
theorem dX11_fit_6 : decode cX11_fit 6 = .ok (.ifCond .eq 15, 3) := by decide +kernel
theorem dX11_fit_9 : decode cX11_fit 9 = .ok (.aload_n 0, 1) := by decide +kernel
theorem dX11_fit_10 : decode cX11_fit 10 = .ok (.iload_n 2, 1) := by decide +kernel
theorem dX11_fit_11 : decode cX11_fit 11 = .ok (.invokevirtual 65, 3) := by decide +kernel
theorem dX11_fit_14 : decode cX11_fit 14 = .ok (.ifCond .eq 7, 3) := by decide +kernel
theorem dX11_fit_17 : decode cX11_fit 17 = .ok (.iconst 1, 1) := by decide +kernel
theorem dX11_fit_18 : decode cX11_fit 18 = .ok (.goto 4, 3) := by decide +kernel
theorem dX11_fit_21 : decode cX11_fit 21 = .ok (.iconst 0, 1) := by decide +kernel
theorem dX11_fit_22 : decode cX11_fit 22 = .ok (.iconst 1, 1) := by decide +kernel
theorem dX11_fit_23 : decode cX11_fit 23 = .ok (.invokevirtual 40, 3) := by decide +kernel
theorem dX11_fit_26 : decode cX11_fit 26 = .ok (.ifCond .ne 16, 3) := by decide +kernel
theorem dX11_fit_29 : decode cX11_fit 29 = .ok (.aload_n 0, 1) := by decide +kernel
theorem dX11_fit_30 : decode cX11_fit 30 = .ok (.iload_n 1, 1) := by decide +kernel
theorem dX11_fit_31 : decode cX11_fit 31 = .ok (.iload_n 2, 1) := by decide +kernel
theorem dX11_fit_32 : decode cX11_fit 32 = .ok (.invokevirtual 94, 3) := by decide +kernel
theorem dX11_fit_35 : decode cX11_fit 35 = .ok (.ifCond .eq 7, 3) := by decide +kernel
theorem dX11_fit_38 : decode cX11_fit 38 = .ok (.iconst 1, 1) := by decide +kernel
theorem dX11_fit_39 : decode cX11_fit 39 = .ok (.goto 4, 3) := by decide +kernel
theorem dX11_fit_42 : decode cX11_fit 42 = .ok (.iconst 0, 1) := by decide +kernel
theorem dX11_fit_43 : decode cX11_fit 43 = .ok (.ireturn, 1) := by decide +kernel
theorem dX11_ends_0 : decode cX11_ends 0 = .ok (.iconst 0, 1) := by decide +kernel
theorem dX11_ends_1 : decode cX11_ends 1 = .ok (.istore_n 1, 1) := by decide +kernel
theorem dX11_ends_2 : decode cX11_ends 2 = .ok (.iconst 0, 1) := by decide +kernel
theorem dX11_ends_3 : decode cX11_ends 3 = .ok (.istore_n 2, 1) := by decide +kernel
theorem dX11_ends_4 : decode cX11_ends 4 = .ok (.iload_n 2, 1) := by decide +kernel
theorem dX11_ends_5 : decode cX11_ends 5 = .ok (.aload_n 0, 1) := by decide +kernel
theorem dX11_ends_6 : decode cX11_ends 6 = .ok (.getfield 10, 3) := by decide +kernel
theorem dX11_ends_9 : decode cX11_ends 9 = .ok (.invokeinterface 30 1, 5) := by decide +kernel
theorem dX11_ends_14 : decode cX11_ends 14 = .ok (.if_icmp .ge 41, 3) := by decide +kernel
theorem dX11_ends_17 : decode cX11_ends 17 = .ok (.iload_n 1, 1) := by decide +kernel
theorem dX11_ends_18 : decode cX11_ends 18 = .ok (.aload_n 0, 1) := by decide +kernel
theorem dX11_ends_19 : decode cX11_ends 19 = .ok (.getfield 10, 3) := by decide +kernel
theorem dX11_ends_22 : decode cX11_ends 22 = .ok (.iload_n 2, 1) := by decide +kernel
theorem dX11_ends_23 : decode cX11_ends 23 = .ok (.invokeinterface 54 2, 5) := by decide +kernel
theorem dX11_ends_28 : decode cX11_ends 28 = .ok (.checkcast 45, 3) := by decide +kernel
theorem dX11_ends_31 : decode cX11_ends 31 = .ok (.invokevirtual 58, 3) := by decide +kernel
theorem dX11_ends_34 : decode cX11_ends 34 = .ok (.iconst 1, 1) := by decide +kernel
theorem dX11_ends_35 : decode cX11_ends 35 = .ok (.iload_n 2, 1) := by decide +kernel
theorem dX11_ends_36 : decode cX11_ends 36 = .ok (.ishl, 1) := by decide +kernel
theorem dX11_ends_37 : decode cX11_ends 37 = .ok (.if_icmp .ne 9, 3) := by decide +kernel
theorem dX11_ends_40 : decode cX11_ends 40 = .ok (.iconst 1, 1) := by decide +kernel
theorem dX11_ends_41 : decode cX11_ends 41 = .ok (.iload_n 2, 1) := by decide +kernel
theorem dX11_ends_42 : decode cX11_ends 42 = .ok (.ishl, 1) := by decide +kernel
theorem dX11_ends_43 : decode cX11_ends 43 = .ok (.goto 4, 3) := by decide +kernel
theorem dX11_ends_46 : decode cX11_ends 46 = .ok (.iconst 0, 1) := by decide +kernel
theorem dX11_ends_47 : decode cX11_ends 47 = .ok (.ior, 1) := by decide +kernel
theorem dX11_ends_48 : decode cX11_ends 48 = .ok (.istore_n 1, 1) := by decide +kernel
theorem dX11_ends_49 : decode cX11_ends 49 = .ok (.iinc 2 1, 3) := by decide +kernel
theorem dX11_ends_52 : decode cX11_ends 52 = .ok (.goto (-48), 3) := by decide +kernel
theorem dX11_ends_55 : decode cX11_ends 55 = .ok (.iload_n 1, 1) := by decide +kernel
theorem dX11_ends_56 : decode cX11_ends 56 = .ok (.ireturn, 1) := by decide +kernel
theorem dX11_lasts_0 : decode cX11_lasts 0 = .ok (.aload_n 0, 1) := by decide +kernel
theorem dX11_lasts_1 : decode cX11_lasts 1 = .ok (.invokevirtual 97, 3) := by decide +kernel
theorem dX11_lasts_4 : decode cX11_lasts 4 = .ok (.ireturn, 1) := by decide +kernel
theorem dX11_apart_0 : decode cX11_apart 0 = .ok (.iconst 1, 1) := by decide +kernel
theorem dX11_apart_1 : decode cX11_apart 1 = .ok (.istore_n 2, 1) := by decide +kernel
theorem dX11_apart_2 : decode cX11_apart 2 = .ok (.iconst 0, 1) := by decide +kernel
theorem dX11_apart_3 : decode cX11_apart 3 = .ok (.istore_n 3, 1) := by decide +kernel
theorem dX11_apart_4 : decode cX11_apart 4 = .ok (.iload_n 3, 1) := by decide +kernel
theorem dX11_apart_5 : decode cX11_apart 5 = .ok (.aload_n 0, 1) := by decide +kernel
theorem dX11_apart_6 : decode cX11_apart 6 = .ok (.getfield 10, 3) := by decide +kernel
theorem dX11_apart_9 : decode cX11_apart 9 = .ok (.invokeinterface 30 1, 5) := by decide +kernel
theorem dX11_apart_14 : decode cX11_apart 14 = .ok (.if_icmp .ge 59, 3) := by decide +kernel
theorem dX11_apart_17 : decode cX11_apart 17 = .ok (.iconst 0, 1) := by decide +kernel
theorem dX11_apart_18 : decode cX11_apart 18 = .ok (.istore 4, 2) := by decide +kernel
theorem dX11_apart_20 : decode cX11_apart 20 = .ok (.iload 4, 2) := by decide +kernel
theorem dX11_apart_22 : decode cX11_apart 22 = .ok (.iload_n 3, 1) := by decide +kernel
theorem dX11_apart_23 : decode cX11_apart 23 = .ok (.if_icmp .ge 44, 3) := by decide +kernel
theorem dX11_apart_26 : decode cX11_apart 26 = .ok (.iload_n 2, 1) := by decide +kernel
theorem dX11_apart_27 : decode cX11_apart 27 = .ok (.iload_n 1, 1) := by decide +kernel
theorem dX11_apart_28 : decode cX11_apart 28 = .ok (.iload_n 3, 1) := by decide +kernel
theorem dX11_apart_29 : decode cX11_apart 29 = .ok (.invokestatic 61, 3) := by decide +kernel
theorem dX11_apart_32 : decode cX11_apart 32 = .ok (.ifCond .eq 22, 3) := by decide +kernel
theorem dX11_apart_35 : decode cX11_apart 35 = .ok (.iload_n 1, 1) := by decide +kernel
theorem dX11_apart_36 : decode cX11_apart 36 = .ok (.iload 4, 2) := by decide +kernel
theorem dX11_apart_38 : decode cX11_apart 38 = .ok (.invokestatic 61, 3) := by decide +kernel
theorem dX11_apart_41 : decode cX11_apart 41 = .ok (.ifCond .eq 13, 3) := by decide +kernel
theorem dX11_apart_44 : decode cX11_apart 44 = .ok (.aload_n 0, 1) := by decide +kernel
theorem dX11_apart_45 : decode cX11_apart 45 = .ok (.iload_n 3, 1) := by decide +kernel
theorem dX11_apart_46 : decode cX11_apart 46 = .ok (.iload 4, 2) := by decide +kernel
theorem dX11_apart_48 : decode cX11_apart 48 = .ok (.invokevirtual 94, 3) := by decide +kernel
theorem dX11_apart_51 : decode cX11_apart 51 = .ok (.ifCond .ne 7, 3) := by decide +kernel
theorem dX11_apart_54 : decode cX11_apart 54 = .ok (.iconst 1, 1) := by decide +kernel
theorem dX11_apart_55 : decode cX11_apart 55 = .ok (.goto 4, 3) := by decide +kernel
theorem dX11_apart_58 : decode cX11_apart 58 = .ok (.iconst 0, 1) := by decide +kernel
theorem dX11_apart_59 : decode cX11_apart 59 = .ok (.iand, 1) := by decide +kernel
theorem dX11_apart_60 : decode cX11_apart 60 = .ok (.istore_n 2, 1) := by decide +kernel
theorem dX11_apart_61 : decode cX11_apart 61 = .ok (.iinc 4 1, 3) := by decide +kernel
theorem dX11_apart_64 : decode cX11_apart 64 = .ok (.goto (-44), 3) := by decide +kernel
theorem dX11_apart_67 : decode cX11_apart 67 = .ok (.iinc 3 1, 3) := by decide +kernel
theorem dX11_apart_70 : decode cX11_apart 70 = .ok (.goto (-66), 3) := by decide +kernel
theorem dX11_apart_73 : decode cX11_apart 73 = .ok (.iload_n 2, 1) := by decide +kernel
theorem dX11_apart_74 : decode cX11_apart 74 = .ok (.ireturn, 1) := by decide +kernel
theorem dX11_isAntichain_0 : decode cX11_isAntichain 0 = .ok (.aload_n 0, 1) := by decide +kernel
theorem dX11_isAntichain_1 : decode cX11_isAntichain 1 = .ok (.aload_n 0, 1) := by decide +kernel
theorem dX11_isAntichain_2 : decode cX11_isAntichain 2 = .ok (.iload_n 1, 1) := by decide +kernel
theorem dX11_isAntichain_3 : decode cX11_isAntichain 3 = .ok (.invokevirtual 100, 3) := by decide +kernel
theorem dX11_isAntichain_6 : decode cX11_isAntichain 6 = .ok (.iconst 1, 1) := by decide +kernel
theorem dX11_isAntichain_7 : decode cX11_isAntichain 7 = .ok (.invokevirtual 40, 3) := by decide +kernel
theorem dX11_isAntichain_10 : decode cX11_isAntichain 10 = .ok (.ifCond .ne 15, 3) := by decide +kernel
theorem dX11_isAntichain_13 : decode cX11_isAntichain 13 = .ok (.aload_n 0, 1) := by decide +kernel
theorem dX11_isAntichain_14 : decode cX11_isAntichain 14 = .ok (.iload_n 1, 1) := by decide +kernel
theorem dX11_isAntichain_15 : decode cX11_isAntichain 15 = .ok (.invokevirtual 103, 3) := by decide +kernel
theorem dX11_isAntichain_18 : decode cX11_isAntichain 18 = .ok (.ifCond .eq 7, 3) := by decide +kernel
theorem dX11_isAntichain_21 : decode cX11_isAntichain 21 = .ok (.iconst 1, 1) := by decide +kernel
theorem dX11_isAntichain_22 : decode cX11_isAntichain 22 = .ok (.goto 4, 3) := by decide +kernel
theorem dX11_isAntichain_25 : decode cX11_isAntichain 25 = .ok (.iconst 0, 1) := by decide +kernel
theorem dX11_isAntichain_26 : decode cX11_isAntichain 26 = .ok (.ireturn, 1) := by decide +kernel
theorem dX11_widest_0 : decode cX11_widest 0 = .ok (.iconst 0, 1) := by decide +kernel
theorem dX11_widest_1 : decode cX11_widest 1 = .ok (.istore_n 1, 1) := by decide +kernel
theorem dX11_widest_2 : decode cX11_widest 2 = .ok (.iconst 0, 1) := by decide +kernel
theorem dX11_widest_3 : decode cX11_widest 3 = .ok (.istore_n 2, 1) := by decide +kernel
theorem dX11_widest_4 : decode cX11_widest 4 = .ok (.iload_n 2, 1) := by decide +kernel
theorem dX11_widest_5 : decode cX11_widest 5 = .ok (.iconst 1, 1) := by decide +kernel
theorem dX11_widest_6 : decode cX11_widest 6 = .ok (.aload_n 0, 1) := by decide +kernel
theorem dX11_widest_7 : decode cX11_widest 7 = .ok (.getfield 10, 3) := by decide +kernel
theorem dX11_widest_10 : decode cX11_widest 10 = .ok (.invokeinterface 30 1, 5) := by decide +kernel
theorem dX11_widest_15 : decode cX11_widest 15 = .ok (.ishl, 1) := by decide +kernel
theorem dX11_widest_16 : decode cX11_widest 16 = .ok (.if_icmp .ge 30, 3) := by decide +kernel
theorem dX11_widest_19 : decode cX11_widest 19 = .ok (.aload_n 0, 1) := by decide +kernel
theorem dX11_widest_20 : decode cX11_widest 20 = .ok (.iload_n 2, 1) := by decide +kernel
theorem dX11_widest_21 : decode cX11_widest 21 = .ok (.invokevirtual 103, 3) := by decide +kernel
theorem dX11_widest_24 : decode cX11_widest 24 = .ok (.ifCond .eq 14, 3) := by decide +kernel
theorem dX11_widest_27 : decode cX11_widest 27 = .ok (.iload_n 1, 1) := by decide +kernel
theorem dX11_widest_28 : decode cX11_widest 28 = .ok (.iload_n 2, 1) := by decide +kernel
theorem dX11_widest_29 : decode cX11_widest 29 = .ok (.invokestatic 90, 3) := by decide +kernel
theorem dX11_widest_32 : decode cX11_widest 32 = .ok (.invokestatic 106, 3) := by decide +kernel
theorem dX11_widest_35 : decode cX11_widest 35 = .ok (.goto 4, 3) := by decide +kernel
theorem dX11_widest_38 : decode cX11_widest 38 = .ok (.iload_n 1, 1) := by decide +kernel
theorem dX11_widest_39 : decode cX11_widest 39 = .ok (.istore_n 1, 1) := by decide +kernel
theorem dX11_widest_40 : decode cX11_widest 40 = .ok (.iinc 2 1, 3) := by decide +kernel
theorem dX11_widest_43 : decode cX11_widest 43 = .ok (.goto (-39), 3) := by decide +kernel
theorem dX11_widest_46 : decode cX11_widest 46 = .ok (.iload_n 1, 1) := by decide +kernel
theorem dX11_widest_47 : decode cX11_widest 47 = .ok (.ireturn, 1) := by decide +kernel
theorem dX11_isDense_0 : decode cX11_isDense 0 = .ok (.aload_n 0, 1) := by decide +kernel
theorem dX11_isDense_1 : decode cX11_isDense 1 = .ok (.aload_n 0, 1) := by decide +kernel
theorem dX11_isDense_2 : decode cX11_isDense 2 = .ok (.iload_n 1, 1) := by decide +kernel
theorem dX11_isDense_3 : decode cX11_isDense 3 = .ok (.invokevirtual 100, 3) := by decide +kernel
theorem dX11_isDense_6 : decode cX11_isDense 6 = .ok (.iconst 1, 1) := by decide +kernel
theorem dX11_isDense_7 : decode cX11_isDense 7 = .ok (.invokevirtual 40, 3) := by decide +kernel
theorem dX11_isDense_10 : decode cX11_isDense 10 = .ok (.ifCond .eq 5, 3) := by decide +kernel
theorem dX11_isDense_13 : decode cX11_isDense 13 = .ok (.iconst 0, 1) := by decide +kernel
theorem dX11_isDense_14 : decode cX11_isDense 14 = .ok (.ireturn, 1) := by decide +kernel
theorem dX11_isDense_15 : decode cX11_isDense 15 = .ok (.iconst 1, 1) := by decide +kernel
theorem dX11_isDense_16 : decode cX11_isDense 16 = .ok (.istore_n 2, 1) := by decide +kernel
theorem dX11_isDense_17 : decode cX11_isDense 17 = .ok (.aload_n 0, 1) := by decide +kernel
theorem dX11_isDense_18 : decode cX11_isDense 18 = .ok (.getfield 10, 3) := by decide +kernel
theorem dX11_isDense_21 : decode cX11_isDense 21 = .ok (.invokeinterface 76 1, 5) := by decide +kernel
theorem dX11_isDense_26 : decode cX11_isDense 26 = .ok (.astore_n 3, 1) := by decide +kernel
theorem dX11_isDense_27 : decode cX11_isDense 27 = .ok (.aload_n 3, 1) := by decide +kernel
theorem dX11_isDense_28 : decode cX11_isDense 28 = .ok (.invokeinterface 80 1, 5) := by decide +kernel
theorem dX11_isDense_33 : decode cX11_isDense 33 = .ok (.ifCond .eq 35, 3) := by decide +kernel
theorem dX11_isDense_36 : decode cX11_isDense 36 = .ok (.aload_n 3, 1) := by decide +kernel
theorem dX11_isDense_37 : decode cX11_isDense 37 = .ok (.invokeinterface 86 1, 5) := by decide +kernel
theorem dX11_isDense_42 : decode cX11_isDense 42 = .ok (.checkcast 45, 3) := by decide +kernel
theorem dX11_isDense_45 : decode cX11_isDense 45 = .ok (.invokevirtual 58, 3) := by decide +kernel
theorem dX11_isDense_48 : decode cX11_isDense 48 = .ok (.istore 4, 2) := by decide +kernel
theorem dX11_isDense_50 : decode cX11_isDense 50 = .ok (.iload_n 2, 1) := by decide +kernel
theorem dX11_isDense_51 : decode cX11_isDense 51 = .ok (.iload 4, 2) := by decide +kernel
theorem dX11_isDense_53 : decode cX11_isDense 53 = .ok (.iload_n 1, 1) := by decide +kernel
theorem dX11_isDense_54 : decode cX11_isDense 54 = .ok (.iand, 1) := by decide +kernel
theorem dX11_isDense_55 : decode cX11_isDense 55 = .ok (.ifCond .eq 7, 3) := by decide +kernel
theorem dX11_isDense_58 : decode cX11_isDense 58 = .ok (.iconst 1, 1) := by decide +kernel
theorem dX11_isDense_59 : decode cX11_isDense 59 = .ok (.goto 4, 3) := by decide +kernel
theorem dX11_isDense_62 : decode cX11_isDense 62 = .ok (.iconst 0, 1) := by decide +kernel
theorem dX11_isDense_63 : decode cX11_isDense 63 = .ok (.iand, 1) := by decide +kernel
theorem dX11_isDense_64 : decode cX11_isDense 64 = .ok (.istore_n 2, 1) := by decide +kernel
theorem dX11_isDense_65 : decode cX11_isDense 65 = .ok (.goto (-38), 3) := by decide +kernel
theorem dX11_isDense_68 : decode cX11_isDense 68 = .ok (.iload_n 2, 1) := by decide +kernel
theorem dX11_isDense_69 : decode cX11_isDense 69 = .ok (.ireturn, 1) := by decide +kernel
theorem dX11_filters_0 : decode cX11_filters 0 = .ok (.iload_n 1, 1) := by decide +kernel
theorem dX11_filters_1 : decode cX11_filters 1 = .ok (.ifCond .eq 7, 3) := by decide +kernel
theorem dX11_filters_4 : decode cX11_filters 4 = .ok (.iconst 1, 1) := by decide +kernel
theorem dX11_filters_5 : decode cX11_filters 5 = .ok (.goto 4, 3) := by decide +kernel
theorem dX11_filters_8 : decode cX11_filters 8 = .ok (.iconst 0, 1) := by decide +kernel
theorem dX11_filters_9 : decode cX11_filters 9 = .ok (.istore_n 2, 1) := by decide +kernel
theorem dX11_filters_10 : decode cX11_filters 10 = .ok (.iconst 0, 1) := by decide +kernel
theorem dX11_filters_11 : decode cX11_filters 11 = .ok (.istore_n 3, 1) := by decide +kernel
theorem dX11_filters_12 : decode cX11_filters 12 = .ok (.iload_n 3, 1) := by decide +kernel
theorem dX11_filters_13 : decode cX11_filters 13 = .ok (.aload_n 0, 1) := by decide +kernel
theorem dX11_filters_14 : decode cX11_filters 14 = .ok (.getfield 10, 3) := by decide +kernel
theorem dX11_filters_17 : decode cX11_filters 17 = .ok (.invokeinterface 30 1, 5) := by decide +kernel
theorem dX11_filters_22 : decode cX11_filters 22 = .ok (.if_icmp .ge 131, 3) := by decide +kernel
theorem dX11_filters_25 : decode cX11_filters 25 = .ok (.iconst 0, 1) := by decide +kernel
theorem dX11_filters_26 : decode cX11_filters 26 = .ok (.istore 4, 2) := by decide +kernel
theorem dX11_filters_28 : decode cX11_filters 28 = .ok (.iload 4, 2) := by decide +kernel
theorem dX11_filters_30 : decode cX11_filters 30 = .ok (.aload_n 0, 1) := by decide +kernel
theorem dX11_filters_31 : decode cX11_filters 31 = .ok (.getfield 10, 3) := by decide +kernel
theorem dX11_filters_34 : decode cX11_filters 34 = .ok (.invokeinterface 30 1, 5) := by decide +kernel
theorem dX11_filters_39 : decode cX11_filters 39 = .ok (.if_icmp .ge 108, 3) := by decide +kernel
theorem dX11_filters_42 : decode cX11_filters 42 = .ok (.iload_n 2, 1) := by decide +kernel
theorem dX11_filters_43 : decode cX11_filters 43 = .ok (.iload_n 1, 1) := by decide +kernel
theorem dX11_filters_44 : decode cX11_filters 44 = .ok (.iload_n 3, 1) := by decide +kernel
theorem dX11_filters_45 : decode cX11_filters 45 = .ok (.invokestatic 61, 3) := by decide +kernel
theorem dX11_filters_48 : decode cX11_filters 48 = .ok (.ifCond .eq 22, 3) := by decide +kernel
theorem dX11_filters_51 : decode cX11_filters 51 = .ok (.aload_n 0, 1) := by decide +kernel
theorem dX11_filters_52 : decode cX11_filters 52 = .ok (.iload_n 3, 1) := by decide +kernel
theorem dX11_filters_53 : decode cX11_filters 53 = .ok (.iload 4, 2) := by decide +kernel
theorem dX11_filters_55 : decode cX11_filters 55 = .ok (.invokevirtual 69, 3) := by decide +kernel
theorem dX11_filters_58 : decode cX11_filters 58 = .ok (.ifCond .eq 12, 3) := by decide +kernel
theorem dX11_filters_61 : decode cX11_filters 61 = .ok (.iload_n 1, 1) := by decide +kernel
theorem dX11_filters_62 : decode cX11_filters 62 = .ok (.iload 4, 2) := by decide +kernel
theorem dX11_filters_64 : decode cX11_filters 64 = .ok (.invokestatic 61, 3) := by decide +kernel
theorem dX11_filters_67 : decode cX11_filters 67 = .ok (.ifCond .eq 7, 3) := by decide +kernel
theorem dX11_filters_70 : decode cX11_filters 70 = .ok (.iconst 1, 1) := by decide +kernel
theorem dX11_filters_71 : decode cX11_filters 71 = .ok (.goto 4, 3) := by decide +kernel
theorem dX11_filters_74 : decode cX11_filters 74 = .ok (.iconst 0, 1) := by decide +kernel
theorem dX11_filters_75 : decode cX11_filters 75 = .ok (.iand, 1) := by decide +kernel
theorem dX11_filters_76 : decode cX11_filters 76 = .ok (.istore_n 2, 1) := by decide +kernel
theorem dX11_filters_77 : decode cX11_filters 77 = .ok (.iload_n 2, 1) := by decide +kernel
theorem dX11_filters_78 : decode cX11_filters 78 = .ok (.iload_n 1, 1) := by decide +kernel
theorem dX11_filters_79 : decode cX11_filters 79 = .ok (.iload_n 3, 1) := by decide +kernel
theorem dX11_filters_80 : decode cX11_filters 80 = .ok (.invokestatic 61, 3) := by decide +kernel
theorem dX11_filters_83 : decode cX11_filters 83 = .ok (.ifCond .eq 51, 3) := by decide +kernel
theorem dX11_filters_86 : decode cX11_filters 86 = .ok (.iload_n 1, 1) := by decide +kernel
theorem dX11_filters_87 : decode cX11_filters 87 = .ok (.iload 4, 2) := by decide +kernel
theorem dX11_filters_89 : decode cX11_filters 89 = .ok (.invokestatic 61, 3) := by decide +kernel
theorem dX11_filters_92 : decode cX11_filters 92 = .ok (.ifCond .eq 42, 3) := by decide +kernel
theorem dX11_filters_95 : decode cX11_filters 95 = .ok (.aload_n 0, 1) := by decide +kernel
theorem dX11_filters_96 : decode cX11_filters 96 = .ok (.getfield 10, 3) := by decide +kernel
theorem dX11_filters_99 : decode cX11_filters 99 = .ok (.iload_n 3, 1) := by decide +kernel
theorem dX11_filters_100 : decode cX11_filters 100 = .ok (.invokeinterface 54 2, 5) := by decide +kernel
theorem dX11_filters_105 : decode cX11_filters 105 = .ok (.checkcast 45, 3) := by decide +kernel
theorem dX11_filters_108 : decode cX11_filters 108 = .ok (.invokevirtual 58, 3) := by decide +kernel
theorem dX11_filters_111 : decode cX11_filters 111 = .ok (.aload_n 0, 1) := by decide +kernel
theorem dX11_filters_112 : decode cX11_filters 112 = .ok (.getfield 10, 3) := by decide +kernel
theorem dX11_filters_115 : decode cX11_filters 115 = .ok (.iload 4, 2) := by decide +kernel
theorem dX11_filters_117 : decode cX11_filters 117 = .ok (.invokeinterface 54 2, 5) := by decide +kernel
theorem dX11_filters_122 : decode cX11_filters 122 = .ok (.checkcast 45, 3) := by decide +kernel
theorem dX11_filters_125 : decode cX11_filters 125 = .ok (.invokevirtual 58, 3) := by decide +kernel
theorem dX11_filters_128 : decode cX11_filters 128 = .ok (.iand, 1) := by decide +kernel
theorem dX11_filters_129 : decode cX11_filters 129 = .ok (.iload_n 1, 1) := by decide +kernel
theorem dX11_filters_130 : decode cX11_filters 130 = .ok (.iand, 1) := by decide +kernel
theorem dX11_filters_131 : decode cX11_filters 131 = .ok (.ifCond .eq 7, 3) := by decide +kernel
theorem dX11_filters_134 : decode cX11_filters 134 = .ok (.iconst 1, 1) := by decide +kernel
theorem dX11_filters_135 : decode cX11_filters 135 = .ok (.goto 4, 3) := by decide +kernel
theorem dX11_filters_138 : decode cX11_filters 138 = .ok (.iconst 0, 1) := by decide +kernel
theorem dX11_filters_139 : decode cX11_filters 139 = .ok (.iand, 1) := by decide +kernel
theorem dX11_filters_140 : decode cX11_filters 140 = .ok (.istore_n 2, 1) := by decide +kernel
theorem dX11_filters_141 : decode cX11_filters 141 = .ok (.iinc 4 1, 3) := by decide +kernel
theorem dX11_filters_144 : decode cX11_filters 144 = .ok (.goto (-116), 3) := by decide +kernel
theorem dX11_filters_147 : decode cX11_filters 147 = .ok (.iinc 3 1, 3) := by decide +kernel
theorem dX11_filters_150 : decode cX11_filters 150 = .ok (.goto (-138), 3) := by decide +kernel
theorem dX11_filters_153 : decode cX11_filters 153 = .ok (.iload_n 2, 1) := by decide +kernel
theorem dX11_filters_154 : decode cX11_filters 154 = .ok (.ireturn, 1) := by decide +kernel
theorem dX11_isFilter_0 : decode cX11_isFilter 0 = .ok (.aload_n 0, 1) := by decide +kernel
theorem dX11_isFilter_1 : decode cX11_isFilter 1 = .ok (.aload_n 0, 1) := by decide +kernel
theorem dX11_isFilter_2 : decode cX11_isFilter 2 = .ok (.iload_n 1, 1) := by decide +kernel
theorem dX11_isFilter_3 : decode cX11_isFilter 3 = .ok (.invokevirtual 100, 3) := by decide +kernel
theorem dX11_isFilter_6 : decode cX11_isFilter 6 = .ok (.iconst 1, 1) := by decide +kernel
theorem dX11_isFilter_7 : decode cX11_isFilter 7 = .ok (.invokevirtual 40, 3) := by decide +kernel
theorem dX11_isFilter_10 : decode cX11_isFilter 10 = .ok (.ifCond .ne 15, 3) := by decide +kernel
theorem dX11_isFilter_13 : decode cX11_isFilter 13 = .ok (.aload_n 0, 1) := by decide +kernel
theorem dX11_isFilter_14 : decode cX11_isFilter 14 = .ok (.iload_n 1, 1) := by decide +kernel
theorem dX11_isFilter_15 : decode cX11_isFilter 15 = .ok (.invokevirtual 112, 3) := by decide +kernel
theorem dX11_isFilter_18 : decode cX11_isFilter 18 = .ok (.ifCond .eq 7, 3) := by decide +kernel
theorem dX11_isFilter_21 : decode cX11_isFilter 21 = .ok (.iconst 1, 1) := by decide +kernel
theorem dX11_isFilter_22 : decode cX11_isFilter 22 = .ok (.goto 4, 3) := by decide +kernel
theorem dX11_isFilter_25 : decode cX11_isFilter 25 = .ok (.iconst 0, 1) := by decide +kernel
theorem dX11_isFilter_26 : decode cX11_isFilter 26 = .ok (.ireturn, 1) := by decide +kernel
theorem dX11_filters__0 : decode cX11_filters_ 0 = .ok (.iconst 0, 1) := by decide +kernel
theorem dX11_filters__1 : decode cX11_filters_ 1 = .ok (.istore_n 1, 1) := by decide +kernel
theorem dX11_filters__2 : decode cX11_filters_ 2 = .ok (.iconst 1, 1) := by decide +kernel
theorem dX11_filters__3 : decode cX11_filters_ 3 = .ok (.istore_n 2, 1) := by decide +kernel
theorem dX11_filters__4 : decode cX11_filters_ 4 = .ok (.iload_n 2, 1) := by decide +kernel
theorem dX11_filters__5 : decode cX11_filters_ 5 = .ok (.iconst 1, 1) := by decide +kernel
theorem dX11_filters__6 : decode cX11_filters_ 6 = .ok (.aload_n 0, 1) := by decide +kernel
theorem dX11_filters__7 : decode cX11_filters_ 7 = .ok (.getfield 10, 3) := by decide +kernel
theorem dX11_filters__10 : decode cX11_filters_ 10 = .ok (.invokeinterface 30 1, 5) := by decide +kernel
theorem dX11_filters__15 : decode cX11_filters_ 15 = .ok (.ishl, 1) := by decide +kernel
theorem dX11_filters__16 : decode cX11_filters_ 16 = .ok (.if_icmp .ge 25, 3) := by decide +kernel
theorem dX11_filters__19 : decode cX11_filters_ 19 = .ok (.iload_n 1, 1) := by decide +kernel
theorem dX11_filters__20 : decode cX11_filters_ 20 = .ok (.aload_n 0, 1) := by decide +kernel
theorem dX11_filters__21 : decode cX11_filters_ 21 = .ok (.iload_n 2, 1) := by decide +kernel
theorem dX11_filters__22 : decode cX11_filters_ 22 = .ok (.invokevirtual 112, 3) := by decide +kernel
theorem dX11_filters__25 : decode cX11_filters_ 25 = .ok (.ifCond .eq 7, 3) := by decide +kernel
theorem dX11_filters__28 : decode cX11_filters_ 28 = .ok (.iconst 1, 1) := by decide +kernel
theorem dX11_filters__29 : decode cX11_filters_ 29 = .ok (.goto 4, 3) := by decide +kernel
theorem dX11_filters__32 : decode cX11_filters_ 32 = .ok (.iconst 0, 1) := by decide +kernel
theorem dX11_filters__33 : decode cX11_filters_ 33 = .ok (.iadd, 1) := by decide +kernel
theorem dX11_filters__34 : decode cX11_filters_ 34 = .ok (.istore_n 1, 1) := by decide +kernel
theorem dX11_filters__35 : decode cX11_filters_ 35 = .ok (.iinc 2 1, 3) := by decide +kernel
theorem dX11_filters__38 : decode cX11_filters_ 38 = .ok (.goto (-34), 3) := by decide +kernel
theorem dX11_filters__41 : decode cX11_filters_ 41 = .ok (.iload_n 1, 1) := by decide +kernel
theorem dX11_filters__42 : decode cX11_filters_ 42 = .ok (.ireturn, 1) := by decide +kernel
theorem dX11_isSeparative_0 : decode cX11_isSeparative 0 = .ok (.iconst 1, 1) := by decide +kernel
theorem dX11_isSeparative_1 : decode cX11_isSeparative 1 = .ok (.istore_n 1, 1) := by decide +kernel
theorem dX11_isSeparative_2 : decode cX11_isSeparative 2 = .ok (.iconst 0, 1) := by decide +kernel
theorem dX11_isSeparative_3 : decode cX11_isSeparative 3 = .ok (.istore_n 2, 1) := by decide +kernel
theorem dX11_isSeparative_4 : decode cX11_isSeparative 4 = .ok (.iload_n 2, 1) := by decide +kernel
theorem dX11_isSeparative_5 : decode cX11_isSeparative 5 = .ok (.aload_n 0, 1) := by decide +kernel
theorem dX11_isSeparative_6 : decode cX11_isSeparative 6 = .ok (.getfield 10, 3) := by decide +kernel
theorem dX11_isSeparative_9 : decode cX11_isSeparative 9 = .ok (.invokeinterface 30 1, 5) := by decide +kernel
theorem dX11_isSeparative_14 : decode cX11_isSeparative 14 = .ok (.if_icmp .ge 96, 3) := by decide +kernel
theorem dX11_isSeparative_17 : decode cX11_isSeparative 17 = .ok (.iconst 0, 1) := by decide +kernel
theorem dX11_isSeparative_18 : decode cX11_isSeparative 18 = .ok (.istore_n 3, 1) := by decide +kernel
theorem dX11_isSeparative_19 : decode cX11_isSeparative 19 = .ok (.iload_n 3, 1) := by decide +kernel
theorem dX11_isSeparative_20 : decode cX11_isSeparative 20 = .ok (.aload_n 0, 1) := by decide +kernel
theorem dX11_isSeparative_21 : decode cX11_isSeparative 21 = .ok (.getfield 10, 3) := by decide +kernel
theorem dX11_isSeparative_24 : decode cX11_isSeparative 24 = .ok (.invokeinterface 30 1, 5) := by decide +kernel
theorem dX11_isSeparative_29 : decode cX11_isSeparative 29 = .ok (.if_icmp .ge 75, 3) := by decide +kernel
theorem dX11_isSeparative_32 : decode cX11_isSeparative 32 = .ok (.aload_n 0, 1) := by decide +kernel
theorem dX11_isSeparative_33 : decode cX11_isSeparative 33 = .ok (.iload_n 2, 1) := by decide +kernel
theorem dX11_isSeparative_34 : decode cX11_isSeparative 34 = .ok (.iload_n 3, 1) := by decide +kernel
theorem dX11_isSeparative_35 : decode cX11_isSeparative 35 = .ok (.invokevirtual 69, 3) := by decide +kernel
theorem dX11_isSeparative_38 : decode cX11_isSeparative 38 = .ok (.istore 4, 2) := by decide +kernel
theorem dX11_isSeparative_40 : decode cX11_isSeparative 40 = .ok (.iconst 0, 1) := by decide +kernel
theorem dX11_isSeparative_41 : decode cX11_isSeparative 41 = .ok (.istore 5, 2) := by decide +kernel
theorem dX11_isSeparative_43 : decode cX11_isSeparative 43 = .ok (.iload 5, 2) := by decide +kernel
theorem dX11_isSeparative_45 : decode cX11_isSeparative 45 = .ok (.aload_n 0, 1) := by decide +kernel
theorem dX11_isSeparative_46 : decode cX11_isSeparative 46 = .ok (.getfield 10, 3) := by decide +kernel
theorem dX11_isSeparative_49 : decode cX11_isSeparative 49 = .ok (.invokeinterface 30 1, 5) := by decide +kernel
theorem dX11_isSeparative_54 : decode cX11_isSeparative 54 = .ok (.if_icmp .ge 39, 3) := by decide +kernel
theorem dX11_isSeparative_57 : decode cX11_isSeparative 57 = .ok (.iload 4, 2) := by decide +kernel
theorem dX11_isSeparative_59 : decode cX11_isSeparative 59 = .ok (.aload_n 0, 1) := by decide +kernel
theorem dX11_isSeparative_60 : decode cX11_isSeparative 60 = .ok (.iload 5, 2) := by decide +kernel
theorem dX11_isSeparative_62 : decode cX11_isSeparative 62 = .ok (.iload_n 2, 1) := by decide +kernel
theorem dX11_isSeparative_63 : decode cX11_isSeparative 63 = .ok (.invokevirtual 69, 3) := by decide +kernel
theorem dX11_isSeparative_66 : decode cX11_isSeparative 66 = .ok (.ifCond .eq 17, 3) := by decide +kernel
theorem dX11_isSeparative_69 : decode cX11_isSeparative 69 = .ok (.aload_n 0, 1) := by decide +kernel
theorem dX11_isSeparative_70 : decode cX11_isSeparative 70 = .ok (.iload 5, 2) := by decide +kernel
theorem dX11_isSeparative_72 : decode cX11_isSeparative 72 = .ok (.iload_n 3, 1) := by decide +kernel
theorem dX11_isSeparative_73 : decode cX11_isSeparative 73 = .ok (.invokevirtual 94, 3) := by decide +kernel
theorem dX11_isSeparative_76 : decode cX11_isSeparative 76 = .ok (.ifCond .ne 7, 3) := by decide +kernel
theorem dX11_isSeparative_79 : decode cX11_isSeparative 79 = .ok (.iconst 1, 1) := by decide +kernel
theorem dX11_isSeparative_80 : decode cX11_isSeparative 80 = .ok (.goto 4, 3) := by decide +kernel
theorem dX11_isSeparative_83 : decode cX11_isSeparative 83 = .ok (.iconst 0, 1) := by decide +kernel
theorem dX11_isSeparative_84 : decode cX11_isSeparative 84 = .ok (.ior, 1) := by decide +kernel
theorem dX11_isSeparative_85 : decode cX11_isSeparative 85 = .ok (.istore 4, 2) := by decide +kernel
theorem dX11_isSeparative_87 : decode cX11_isSeparative 87 = .ok (.iinc 5 1, 3) := by decide +kernel
theorem dX11_isSeparative_90 : decode cX11_isSeparative 90 = .ok (.goto (-47), 3) := by decide +kernel
theorem dX11_isSeparative_93 : decode cX11_isSeparative 93 = .ok (.iload_n 1, 1) := by decide +kernel
theorem dX11_isSeparative_94 : decode cX11_isSeparative 94 = .ok (.iload 4, 2) := by decide +kernel
theorem dX11_isSeparative_96 : decode cX11_isSeparative 96 = .ok (.iand, 1) := by decide +kernel
theorem dX11_isSeparative_97 : decode cX11_isSeparative 97 = .ok (.istore_n 1, 1) := by decide +kernel
theorem dX11_isSeparative_98 : decode cX11_isSeparative 98 = .ok (.iinc 3 1, 3) := by decide +kernel
theorem dX11_isSeparative_101 : decode cX11_isSeparative 101 = .ok (.goto (-82), 3) := by decide +kernel
theorem dX11_isSeparative_104 : decode cX11_isSeparative 104 = .ok (.iinc 2 1, 3) := by decide +kernel
theorem dX11_isSeparative_107 : decode cX11_isSeparative 107 = .ok (.goto (-103), 3) := by decide +kernel
theorem dX11_isSeparative_110 : decode cX11_isSeparative 110 = .ok (.iload_n 1, 1) := by decide +kernel
theorem dX11_isSeparative_111 : decode cX11_isSeparative 111 = .ok (.ireturn, 1) := by decide +kernel
theorem dX11_endsBelow_0 : decode cX11_endsBelow 0 = .ok (.aload_n 0, 1) := by decide +kernel
theorem dX11_endsBelow_1 : decode cX11_endsBelow 1 = .ok (.getfield 10, 3) := by decide +kernel
theorem dX11_endsBelow_4 : decode cX11_endsBelow 4 = .ok (.iload_n 1, 1) := by decide +kernel
theorem dX11_endsBelow_5 : decode cX11_endsBelow 5 = .ok (.invokeinterface 54 2, 5) := by decide +kernel
theorem dX11_endsBelow_10 : decode cX11_endsBelow 10 = .ok (.checkcast 45, 3) := by decide +kernel
theorem dX11_endsBelow_13 : decode cX11_endsBelow 13 = .ok (.invokevirtual 58, 3) := by decide +kernel
theorem dX11_endsBelow_16 : decode cX11_endsBelow 16 = .ok (.aload_n 0, 1) := by decide +kernel
theorem dX11_endsBelow_17 : decode cX11_endsBelow 17 = .ok (.invokevirtual 97, 3) := by decide +kernel
theorem dX11_endsBelow_20 : decode cX11_endsBelow 20 = .ok (.iand, 1) := by decide +kernel
theorem dX11_endsBelow_21 : decode cX11_endsBelow 21 = .ok (.ireturn, 1) := by decide +kernel
theorem dX11_cut_0 : decode cX11_cut 0 = .ok (.aload_n 0, 1) := by decide +kernel
theorem dX11_cut_1 : decode cX11_cut 1 = .ok (.aload_n 0, 1) := by decide +kernel
theorem dX11_cut_2 : decode cX11_cut 2 = .ok (.iload_n 1, 1) := by decide +kernel
theorem dX11_cut_3 : decode cX11_cut 3 = .ok (.invokevirtual 65, 3) := by decide +kernel
theorem dX11_cut_6 : decode cX11_cut 6 = .ok (.iconst 1, 1) := by decide +kernel
theorem dX11_cut_7 : decode cX11_cut 7 = .ok (.invokevirtual 40, 3) := by decide +kernel
theorem dX11_cut_10 : decode cX11_cut 10 = .ok (.ifCond .eq 7, 3) := by decide +kernel
theorem dX11_cut_13 : decode cX11_cut 13 = .ok (.iconst 0, 1) := by decide +kernel
theorem dX11_cut_14 : decode cX11_cut 14 = .ok (.goto 8, 3) := by decide +kernel
theorem dX11_cut_17 : decode cX11_cut 17 = .ok (.aload_n 0, 1) := by decide +kernel
theorem dX11_cut_18 : decode cX11_cut 18 = .ok (.iload_n 1, 1) := by decide +kernel
theorem dX11_cut_19 : decode cX11_cut 19 = .ok (.invokevirtual 115, 3) := by decide +kernel
theorem dX11_cut_22 : decode cX11_cut 22 = .ok (.ireturn, 1) := by decide +kernel
theorem dX11_closure_0 : decode cX11_closure 0 = .ok (.aload_n 0, 1) := by decide +kernel
theorem dX11_closure_1 : decode cX11_closure 1 = .ok (.aload_n 0, 1) := by decide +kernel
theorem dX11_closure_2 : decode cX11_closure 2 = .ok (.iload_n 1, 1) := by decide +kernel
theorem dX11_closure_3 : decode cX11_closure 3 = .ok (.invokevirtual 100, 3) := by decide +kernel
theorem dX11_closure_6 : decode cX11_closure 6 = .ok (.iconst 1, 1) := by decide +kernel
theorem dX11_closure_7 : decode cX11_closure 7 = .ok (.invokevirtual 40, 3) := by decide +kernel
theorem dX11_closure_10 : decode cX11_closure 10 = .ok (.ifCond .eq 5, 3) := by decide +kernel
theorem dX11_closure_13 : decode cX11_closure 13 = .ok (.iconst 0, 1) := by decide +kernel
theorem dX11_closure_14 : decode cX11_closure 14 = .ok (.ireturn, 1) := by decide +kernel
theorem dX11_closure_15 : decode cX11_closure 15 = .ok (.iconst 0, 1) := by decide +kernel
theorem dX11_closure_16 : decode cX11_closure 16 = .ok (.istore_n 2, 1) := by decide +kernel
theorem dX11_closure_17 : decode cX11_closure 17 = .ok (.iconst 0, 1) := by decide +kernel
theorem dX11_closure_18 : decode cX11_closure 18 = .ok (.istore_n 3, 1) := by decide +kernel
theorem dX11_closure_19 : decode cX11_closure 19 = .ok (.iconst 0, 1) := by decide +kernel
theorem dX11_closure_20 : decode cX11_closure 20 = .ok (.istore 4, 2) := by decide +kernel
theorem dX11_closure_22 : decode cX11_closure 22 = .ok (.iload 4, 2) := by decide +kernel
theorem dX11_closure_24 : decode cX11_closure 24 = .ok (.aload_n 0, 1) := by decide +kernel
theorem dX11_closure_25 : decode cX11_closure 25 = .ok (.getfield 10, 3) := by decide +kernel
theorem dX11_closure_28 : decode cX11_closure 28 = .ok (.invokeinterface 30 1, 5) := by decide +kernel
theorem dX11_closure_33 : decode cX11_closure 33 = .ok (.if_icmp .ge 31, 3) := by decide +kernel
theorem dX11_closure_36 : decode cX11_closure 36 = .ok (.iload_n 2, 1) := by decide +kernel
theorem dX11_closure_37 : decode cX11_closure 37 = .ok (.iload_n 1, 1) := by decide +kernel
theorem dX11_closure_38 : decode cX11_closure 38 = .ok (.iload 4, 2) := by decide +kernel
theorem dX11_closure_40 : decode cX11_closure 40 = .ok (.invokestatic 61, 3) := by decide +kernel
theorem dX11_closure_43 : decode cX11_closure 43 = .ok (.ifCond .eq 12, 3) := by decide +kernel
theorem dX11_closure_46 : decode cX11_closure 46 = .ok (.aload_n 0, 1) := by decide +kernel
theorem dX11_closure_47 : decode cX11_closure 47 = .ok (.iload 4, 2) := by decide +kernel
theorem dX11_closure_49 : decode cX11_closure 49 = .ok (.invokevirtual 115, 3) := by decide +kernel
theorem dX11_closure_52 : decode cX11_closure 52 = .ok (.goto 4, 3) := by decide +kernel
theorem dX11_closure_55 : decode cX11_closure 55 = .ok (.iconst 0, 1) := by decide +kernel
theorem dX11_closure_56 : decode cX11_closure 56 = .ok (.ior, 1) := by decide +kernel
theorem dX11_closure_57 : decode cX11_closure 57 = .ok (.istore_n 2, 1) := by decide +kernel
theorem dX11_closure_58 : decode cX11_closure 58 = .ok (.iinc 4 1, 3) := by decide +kernel
theorem dX11_closure_61 : decode cX11_closure 61 = .ok (.goto (-39), 3) := by decide +kernel
theorem dX11_closure_64 : decode cX11_closure 64 = .ok (.iconst 0, 1) := by decide +kernel
theorem dX11_closure_65 : decode cX11_closure 65 = .ok (.istore 4, 2) := by decide +kernel
theorem dX11_closure_67 : decode cX11_closure 67 = .ok (.iload 4, 2) := by decide +kernel
theorem dX11_closure_69 : decode cX11_closure 69 = .ok (.aload_n 0, 1) := by decide +kernel
theorem dX11_closure_70 : decode cX11_closure 70 = .ok (.getfield 10, 3) := by decide +kernel
theorem dX11_closure_73 : decode cX11_closure 73 = .ok (.invokeinterface 30 1, 5) := by decide +kernel
theorem dX11_closure_78 : decode cX11_closure 78 = .ok (.if_icmp .ge 33, 3) := by decide +kernel
theorem dX11_closure_81 : decode cX11_closure 81 = .ok (.iload_n 3, 1) := by decide +kernel
theorem dX11_closure_82 : decode cX11_closure 82 = .ok (.aload_n 0, 1) := by decide +kernel
theorem dX11_closure_83 : decode cX11_closure 83 = .ok (.iload 4, 2) := by decide +kernel
theorem dX11_closure_85 : decode cX11_closure 85 = .ok (.invokevirtual 115, 3) := by decide +kernel
theorem dX11_closure_88 : decode cX11_closure 88 = .ok (.iload_n 2, 1) := by decide +kernel
theorem dX11_closure_89 : decode cX11_closure 89 = .ok (.iconst (-1), 1) := by decide +kernel
theorem dX11_closure_90 : decode cX11_closure 90 = .ok (.ixor, 1) := by decide +kernel
theorem dX11_closure_91 : decode cX11_closure 91 = .ok (.iand, 1) := by decide +kernel
theorem dX11_closure_92 : decode cX11_closure 92 = .ok (.ifCond .ne 10, 3) := by decide +kernel
theorem dX11_closure_95 : decode cX11_closure 95 = .ok (.iconst 1, 1) := by decide +kernel
theorem dX11_closure_96 : decode cX11_closure 96 = .ok (.iload 4, 2) := by decide +kernel
theorem dX11_closure_98 : decode cX11_closure 98 = .ok (.ishl, 1) := by decide +kernel
theorem dX11_closure_99 : decode cX11_closure 99 = .ok (.goto 4, 3) := by decide +kernel
theorem dX11_closure_102 : decode cX11_closure 102 = .ok (.iconst 0, 1) := by decide +kernel
theorem dX11_closure_103 : decode cX11_closure 103 = .ok (.ior, 1) := by decide +kernel
theorem dX11_closure_104 : decode cX11_closure 104 = .ok (.istore_n 3, 1) := by decide +kernel
theorem dX11_closure_105 : decode cX11_closure 105 = .ok (.iinc 4 1, 3) := by decide +kernel
theorem dX11_closure_108 : decode cX11_closure 108 = .ok (.goto (-41), 3) := by decide +kernel
theorem dX11_closure_111 : decode cX11_closure 111 = .ok (.iload_n 3, 1) := by decide +kernel
theorem dX11_closure_112 : decode cX11_closure 112 = .ok (.ireturn, 1) := by decide +kernel
theorem dX11_isWorld_0 : decode cX11_isWorld 0 = .ok (.aload_n 0, 1) := by decide +kernel
theorem dX11_isWorld_1 : decode cX11_isWorld 1 = .ok (.iload_n 1, 1) := by decide +kernel
theorem dX11_isWorld_2 : decode cX11_isWorld 2 = .ok (.invokevirtual 65, 3) := by decide +kernel
theorem dX11_isWorld_5 : decode cX11_isWorld 5 = .ok (.ifCond .eq 18, 3) := by decide +kernel
theorem dX11_isWorld_8 : decode cX11_isWorld 8 = .ok (.aload_n 0, 1) := by decide +kernel
theorem dX11_isWorld_9 : decode cX11_isWorld 9 = .ok (.invokevirtual 97, 3) := by decide +kernel
theorem dX11_isWorld_12 : decode cX11_isWorld 12 = .ok (.iload_n 1, 1) := by decide +kernel
theorem dX11_isWorld_13 : decode cX11_isWorld 13 = .ok (.invokestatic 61, 3) := by decide +kernel
theorem dX11_isWorld_16 : decode cX11_isWorld 16 = .ok (.ifCond .eq 7, 3) := by decide +kernel
theorem dX11_isWorld_19 : decode cX11_isWorld 19 = .ok (.iconst 1, 1) := by decide +kernel
theorem dX11_isWorld_20 : decode cX11_isWorld 20 = .ok (.goto 4, 3) := by decide +kernel
theorem dX11_isWorld_23 : decode cX11_isWorld 23 = .ok (.iconst 0, 1) := by decide +kernel
theorem dX11_isWorld_24 : decode cX11_isWorld 24 = .ok (.ireturn, 1) := by decide +kernel
theorem dX11_filterOf_0 : decode cX11_filterOf 0 = .ok (.aload_n 0, 1) := by decide +kernel
theorem dX11_filterOf_1 : decode cX11_filterOf 1 = .ok (.aload_n 0, 1) := by decide +kernel
theorem dX11_filterOf_2 : decode cX11_filterOf 2 = .ok (.iload_n 1, 1) := by decide +kernel
theorem dX11_filterOf_3 : decode cX11_filterOf 3 = .ok (.invokevirtual 118, 3) := by decide +kernel
theorem dX11_filterOf_6 : decode cX11_filterOf 6 = .ok (.iconst 1, 1) := by decide +kernel
theorem dX11_filterOf_7 : decode cX11_filterOf 7 = .ok (.invokevirtual 40, 3) := by decide +kernel
theorem dX11_filterOf_10 : decode cX11_filterOf 10 = .ok (.ifCond .eq 5, 3) := by decide +kernel
theorem dX11_filterOf_13 : decode cX11_filterOf 13 = .ok (.iconst 0, 1) := by decide +kernel
theorem dX11_filterOf_14 : decode cX11_filterOf 14 = .ok (.ireturn, 1) := by decide +kernel
theorem dX11_filterOf_15 : decode cX11_filterOf 15 = .ok (.iconst 0, 1) := by decide +kernel
theorem dX11_filterOf_16 : decode cX11_filterOf 16 = .ok (.istore_n 2, 1) := by decide +kernel
theorem dX11_filterOf_17 : decode cX11_filterOf 17 = .ok (.iconst 0, 1) := by decide +kernel
theorem dX11_filterOf_18 : decode cX11_filterOf 18 = .ok (.istore_n 3, 1) := by decide +kernel
theorem dX11_filterOf_19 : decode cX11_filterOf 19 = .ok (.iload_n 3, 1) := by decide +kernel
theorem dX11_filterOf_20 : decode cX11_filterOf 20 = .ok (.aload_n 0, 1) := by decide +kernel
theorem dX11_filterOf_21 : decode cX11_filterOf 21 = .ok (.getfield 10, 3) := by decide +kernel
theorem dX11_filterOf_24 : decode cX11_filterOf 24 = .ok (.invokeinterface 30 1, 5) := by decide +kernel
theorem dX11_filterOf_29 : decode cX11_filterOf 29 = .ok (.if_icmp .ge 28, 3) := by decide +kernel
theorem dX11_filterOf_32 : decode cX11_filterOf 32 = .ok (.iload_n 2, 1) := by decide +kernel
theorem dX11_filterOf_33 : decode cX11_filterOf 33 = .ok (.aload_n 0, 1) := by decide +kernel
theorem dX11_filterOf_34 : decode cX11_filterOf 34 = .ok (.iload_n 1, 1) := by decide +kernel
theorem dX11_filterOf_35 : decode cX11_filterOf 35 = .ok (.iload_n 3, 1) := by decide +kernel
theorem dX11_filterOf_36 : decode cX11_filterOf 36 = .ok (.invokevirtual 69, 3) := by decide +kernel
theorem dX11_filterOf_39 : decode cX11_filterOf 39 = .ok (.ifCond .eq 9, 3) := by decide +kernel
theorem dX11_filterOf_42 : decode cX11_filterOf 42 = .ok (.iconst 1, 1) := by decide +kernel
theorem dX11_filterOf_43 : decode cX11_filterOf 43 = .ok (.iload_n 3, 1) := by decide +kernel
theorem dX11_filterOf_44 : decode cX11_filterOf 44 = .ok (.ishl, 1) := by decide +kernel
theorem dX11_filterOf_45 : decode cX11_filterOf 45 = .ok (.goto 4, 3) := by decide +kernel
theorem dX11_filterOf_48 : decode cX11_filterOf 48 = .ok (.iconst 0, 1) := by decide +kernel
theorem dX11_filterOf_49 : decode cX11_filterOf 49 = .ok (.ior, 1) := by decide +kernel
theorem dX11_filterOf_50 : decode cX11_filterOf 50 = .ok (.istore_n 2, 1) := by decide +kernel
theorem dX11_filterOf_51 : decode cX11_filterOf 51 = .ok (.iinc 3 1, 3) := by decide +kernel
theorem dX11_filterOf_54 : decode cX11_filterOf 54 = .ok (.goto (-35), 3) := by decide +kernel
theorem dX11_filterOf_57 : decode cX11_filterOf 57 = .ok (.iload_n 2, 1) := by decide +kernel
theorem dX11_filterOf_58 : decode cX11_filterOf 58 = .ok (.ireturn, 1) := by decide +kernel
theorem dX11_name_0 : decode cX11_name 0 = .ok (.aload_n 0, 1) := by decide +kernel
theorem dX11_name_1 : decode cX11_name 1 = .ok (.aload_n 0, 1) := by decide +kernel
theorem dX11_name_2 : decode cX11_name 2 = .ok (.getfield 16, 3) := by decide +kernel
theorem dX11_name_5 : decode cX11_name 5 = .ok (.invokeinterface 30 1, 5) := by decide +kernel
theorem dX11_name_10 : decode cX11_name 10 = .ok (.bipush 12, 2) := by decide +kernel
theorem dX11_name_12 : decode cX11_name 12 = .ok (.if_icmp .ge 7, 3) := by decide +kernel
theorem dX11_name_15 : decode cX11_name 15 = .ok (.iconst 1, 1) := by decide +kernel
theorem dX11_name_16 : decode cX11_name 16 = .ok (.goto 4, 3) := by decide +kernel
theorem dX11_name_19 : decode cX11_name 19 = .ok (.iconst 0, 1) := by decide +kernel
theorem dX11_name_20 : decode cX11_name 20 = .ok (.iconst 1, 1) := by decide +kernel
theorem dX11_name_21 : decode cX11_name 21 = .ok (.invokevirtual 40, 3) := by decide +kernel
theorem dX11_name_24 : decode cX11_name 24 = .ok (.ifCond .eq 5, 3) := by decide +kernel
theorem dX11_name_27 : decode cX11_name 27 = .ok (.iconst 0, 1) := by decide +kernel
theorem dX11_name_28 : decode cX11_name 28 = .ok (.ireturn, 1) := by decide +kernel
theorem dX11_name_29 : decode cX11_name 29 = .ok (.aload_n 0, 1) := by decide +kernel
theorem dX11_name_30 : decode cX11_name 30 = .ok (.getfield 16, 3) := by decide +kernel
theorem dX11_name_33 : decode cX11_name 33 = .ok (.new 121, 3) := by decide +kernel
theorem dX11_name_36 : decode cX11_name 36 = .ok (.dup, 1) := by decide +kernel
theorem dX11_name_37 : decode cX11_name 37 = .ok (.invokespecial 123, 3) := by decide +kernel
theorem dX11_name_40 : decode cX11_name 40 = .ok (.invokeinterface 50 2, 5) := by decide +kernel
theorem dX11_name_45 : decode cX11_name 45 = .ok (.pop, 1) := by decide +kernel
theorem dX11_name_46 : decode cX11_name 46 = .ok (.aload_n 0, 1) := by decide +kernel
theorem dX11_name_47 : decode cX11_name 47 = .ok (.getfield 16, 3) := by decide +kernel
theorem dX11_name_50 : decode cX11_name 50 = .ok (.invokeinterface 30 1, 5) := by decide +kernel
theorem dX11_name_55 : decode cX11_name 55 = .ok (.iconst 1, 1) := by decide +kernel
theorem dX11_name_56 : decode cX11_name 56 = .ok (.isub, 1) := by decide +kernel
theorem dX11_name_57 : decode cX11_name 57 = .ok (.ireturn, 1) := by decide +kernel
theorem dX11_rankOf_0 : decode cX11_rankOf 0 = .ok (.iconst 0, 1) := by decide +kernel
theorem dX11_rankOf_1 : decode cX11_rankOf 1 = .ok (.istore_n 2, 1) := by decide +kernel
theorem dX11_rankOf_2 : decode cX11_rankOf 2 = .ok (.aload_n 0, 1) := by decide +kernel
theorem dX11_rankOf_3 : decode cX11_rankOf 3 = .ok (.getfield 16, 3) := by decide +kernel
theorem dX11_rankOf_6 : decode cX11_rankOf 6 = .ok (.iload_n 1, 1) := by decide +kernel
theorem dX11_rankOf_7 : decode cX11_rankOf 7 = .ok (.invokeinterface 54 2, 5) := by decide +kernel
theorem dX11_rankOf_12 : decode cX11_rankOf 12 = .ok (.checkcast 121, 3) := by decide +kernel
theorem dX11_rankOf_15 : decode cX11_rankOf 15 = .ok (.getfield 124, 3) := by decide +kernel
theorem dX11_rankOf_18 : decode cX11_rankOf 18 = .ok (.invokeinterface 76 1, 5) := by decide +kernel
theorem dX11_rankOf_23 : decode cX11_rankOf 23 = .ok (.astore_n 3, 1) := by decide +kernel
theorem dX11_rankOf_24 : decode cX11_rankOf 24 = .ok (.aload_n 3, 1) := by decide +kernel
theorem dX11_rankOf_25 : decode cX11_rankOf 25 = .ok (.invokeinterface 80 1, 5) := by decide +kernel
theorem dX11_rankOf_30 : decode cX11_rankOf 30 = .ok (.ifCond .eq 32, 3) := by decide +kernel
theorem dX11_rankOf_33 : decode cX11_rankOf 33 = .ok (.aload_n 3, 1) := by decide +kernel
theorem dX11_rankOf_34 : decode cX11_rankOf 34 = .ok (.invokeinterface 86 1, 5) := by decide +kernel
theorem dX11_rankOf_39 : decode cX11_rankOf 39 = .ok (.checkcast 127, 3) := by decide +kernel
theorem dX11_rankOf_42 : decode cX11_rankOf 42 = .ok (.astore 4, 2) := by decide +kernel
theorem dX11_rankOf_44 : decode cX11_rankOf 44 = .ok (.iload_n 2, 1) := by decide +kernel
theorem dX11_rankOf_45 : decode cX11_rankOf 45 = .ok (.iconst 1, 1) := by decide +kernel
theorem dX11_rankOf_46 : decode cX11_rankOf 46 = .ok (.aload_n 0, 1) := by decide +kernel
theorem dX11_rankOf_47 : decode cX11_rankOf 47 = .ok (.aload 4, 2) := by decide +kernel
theorem dX11_rankOf_49 : decode cX11_rankOf 49 = .ok (.iconst 0, 1) := by decide +kernel
theorem dX11_rankOf_50 : decode cX11_rankOf 50 = .ok (.iaload, 1) := by decide +kernel
theorem dX11_rankOf_51 : decode cX11_rankOf 51 = .ok (.invokevirtual 128, 3) := by decide +kernel
theorem dX11_rankOf_54 : decode cX11_rankOf 54 = .ok (.iadd, 1) := by decide +kernel
theorem dX11_rankOf_55 : decode cX11_rankOf 55 = .ok (.invokestatic 106, 3) := by decide +kernel
theorem dX11_rankOf_58 : decode cX11_rankOf 58 = .ok (.istore_n 2, 1) := by decide +kernel
theorem dX11_rankOf_59 : decode cX11_rankOf 59 = .ok (.goto (-35), 3) := by decide +kernel
theorem dX11_rankOf_62 : decode cX11_rankOf 62 = .ok (.iload_n 2, 1) := by decide +kernel
theorem dX11_rankOf_63 : decode cX11_rankOf 63 = .ok (.ireturn, 1) := by decide +kernel
theorem dX11_hasPair_0 : decode cX11_hasPair 0 = .ok (.iconst 0, 1) := by decide +kernel
theorem dX11_hasPair_1 : decode cX11_hasPair 1 = .ok (.istore_n 3, 1) := by decide +kernel
theorem dX11_hasPair_2 : decode cX11_hasPair 2 = .ok (.aload_n 0, 1) := by decide +kernel
theorem dX11_hasPair_3 : decode cX11_hasPair 3 = .ok (.invokeinterface 76 1, 5) := by decide +kernel
theorem dX11_hasPair_8 : decode cX11_hasPair 8 = .ok (.astore 4, 2) := by decide +kernel
theorem dX11_hasPair_10 : decode cX11_hasPair 10 = .ok (.aload 4, 2) := by decide +kernel
theorem dX11_hasPair_12 : decode cX11_hasPair 12 = .ok (.invokeinterface 80 1, 5) := by decide +kernel
theorem dX11_hasPair_17 : decode cX11_hasPair 17 = .ok (.ifCond .eq 42, 3) := by decide +kernel
theorem dX11_hasPair_20 : decode cX11_hasPair 20 = .ok (.aload 4, 2) := by decide +kernel
theorem dX11_hasPair_22 : decode cX11_hasPair 22 = .ok (.invokeinterface 86 1, 5) := by decide +kernel
theorem dX11_hasPair_27 : decode cX11_hasPair 27 = .ok (.checkcast 127, 3) := by decide +kernel
theorem dX11_hasPair_30 : decode cX11_hasPair 30 = .ok (.astore 5, 2) := by decide +kernel
theorem dX11_hasPair_32 : decode cX11_hasPair 32 = .ok (.iload_n 3, 1) := by decide +kernel
theorem dX11_hasPair_33 : decode cX11_hasPair 33 = .ok (.aload 5, 2) := by decide +kernel
theorem dX11_hasPair_35 : decode cX11_hasPair 35 = .ok (.iconst 0, 1) := by decide +kernel
theorem dX11_hasPair_36 : decode cX11_hasPair 36 = .ok (.iaload, 1) := by decide +kernel
theorem dX11_hasPair_37 : decode cX11_hasPair 37 = .ok (.iload_n 1, 1) := by decide +kernel
theorem dX11_hasPair_38 : decode cX11_hasPair 38 = .ok (.if_icmp .ne 15, 3) := by decide +kernel
theorem dX11_hasPair_41 : decode cX11_hasPair 41 = .ok (.aload 5, 2) := by decide +kernel
theorem dX11_hasPair_43 : decode cX11_hasPair 43 = .ok (.iconst 1, 1) := by decide +kernel
theorem dX11_hasPair_44 : decode cX11_hasPair 44 = .ok (.iaload, 1) := by decide +kernel
theorem dX11_hasPair_45 : decode cX11_hasPair 45 = .ok (.iload_n 2, 1) := by decide +kernel
theorem dX11_hasPair_46 : decode cX11_hasPair 46 = .ok (.if_icmp .ne 7, 3) := by decide +kernel
theorem dX11_hasPair_49 : decode cX11_hasPair 49 = .ok (.iconst 1, 1) := by decide +kernel
theorem dX11_hasPair_50 : decode cX11_hasPair 50 = .ok (.goto 4, 3) := by decide +kernel
theorem dX11_hasPair_53 : decode cX11_hasPair 53 = .ok (.iconst 0, 1) := by decide +kernel
theorem dX11_hasPair_54 : decode cX11_hasPair 54 = .ok (.ior, 1) := by decide +kernel
theorem dX11_hasPair_55 : decode cX11_hasPair 55 = .ok (.istore_n 3, 1) := by decide +kernel
theorem dX11_hasPair_56 : decode cX11_hasPair 56 = .ok (.goto (-46), 3) := by decide +kernel
theorem dX11_hasPair_59 : decode cX11_hasPair 59 = .ok (.iload_n 3, 1) := by decide +kernel
theorem dX11_hasPair_60 : decode cX11_hasPair 60 = .ok (.ireturn, 1) := by decide +kernel
theorem dX11_pair_0 : decode cX11_pair 0 = .ok (.aload_n 0, 1) := by decide +kernel
theorem dX11_pair_1 : decode cX11_pair 1 = .ok (.aload_n 0, 1) := by decide +kernel
theorem dX11_pair_2 : decode cX11_pair 2 = .ok (.iload_n 1, 1) := by decide +kernel
theorem dX11_pair_3 : decode cX11_pair 3 = .ok (.invokevirtual 131, 3) := by decide +kernel
theorem dX11_pair_6 : decode cX11_pair 6 = .ok (.ifCond .eq 23, 3) := by decide +kernel
theorem dX11_pair_9 : decode cX11_pair 9 = .ok (.aload_n 0, 1) := by decide +kernel
theorem dX11_pair_10 : decode cX11_pair 10 = .ok (.iload_n 2, 1) := by decide +kernel
theorem dX11_pair_11 : decode cX11_pair 11 = .ok (.invokevirtual 131, 3) := by decide +kernel
theorem dX11_pair_14 : decode cX11_pair 14 = .ok (.ifCond .eq 15, 3) := by decide +kernel
theorem dX11_pair_17 : decode cX11_pair 17 = .ok (.aload_n 0, 1) := by decide +kernel
theorem dX11_pair_18 : decode cX11_pair 18 = .ok (.iload_n 3, 1) := by decide +kernel
theorem dX11_pair_19 : decode cX11_pair 19 = .ok (.invokevirtual 65, 3) := by decide +kernel
theorem dX11_pair_22 : decode cX11_pair 22 = .ok (.ifCond .eq 7, 3) := by decide +kernel
theorem dX11_pair_25 : decode cX11_pair 25 = .ok (.iconst 1, 1) := by decide +kernel
theorem dX11_pair_26 : decode cX11_pair 26 = .ok (.goto 4, 3) := by decide +kernel
theorem dX11_pair_29 : decode cX11_pair 29 = .ok (.iconst 0, 1) := by decide +kernel
theorem dX11_pair_30 : decode cX11_pair 30 = .ok (.iconst 1, 1) := by decide +kernel
theorem dX11_pair_31 : decode cX11_pair 31 = .ok (.invokevirtual 40, 3) := by decide +kernel
theorem dX11_pair_34 : decode cX11_pair 34 = .ok (.ifCond .ne 21, 3) := by decide +kernel
theorem dX11_pair_37 : decode cX11_pair 37 = .ok (.aload_n 0, 1) := by decide +kernel
theorem dX11_pair_38 : decode cX11_pair 38 = .ok (.iload_n 2, 1) := by decide +kernel
theorem dX11_pair_39 : decode cX11_pair 39 = .ok (.iload_n 1, 1) := by decide +kernel
theorem dX11_pair_40 : decode cX11_pair 40 = .ok (.if_icmp .ge 7, 3) := by decide +kernel
theorem dX11_pair_43 : decode cX11_pair 43 = .ok (.iconst 1, 1) := by decide +kernel
theorem dX11_pair_44 : decode cX11_pair 44 = .ok (.goto 4, 3) := by decide +kernel
theorem dX11_pair_47 : decode cX11_pair 47 = .ok (.iconst 0, 1) := by decide +kernel
theorem dX11_pair_48 : decode cX11_pair 48 = .ok (.iconst 2, 1) := by decide +kernel
theorem dX11_pair_49 : decode cX11_pair 49 = .ok (.invokevirtual 40, 3) := by decide +kernel
theorem dX11_pair_52 : decode cX11_pair 52 = .ok (.ifCond .eq 5, 3) := by decide +kernel
theorem dX11_pair_55 : decode cX11_pair 55 = .ok (.iconst 0, 1) := by decide +kernel
theorem dX11_pair_56 : decode cX11_pair 56 = .ok (.ireturn, 1) := by decide +kernel
theorem dX11_pair_57 : decode cX11_pair 57 = .ok (.aload_n 0, 1) := by decide +kernel
theorem dX11_pair_58 : decode cX11_pair 58 = .ok (.getfield 16, 3) := by decide +kernel
theorem dX11_pair_61 : decode cX11_pair 61 = .ok (.iload_n 1, 1) := by decide +kernel
theorem dX11_pair_62 : decode cX11_pair 62 = .ok (.invokeinterface 54 2, 5) := by decide +kernel
theorem dX11_pair_67 : decode cX11_pair 67 = .ok (.checkcast 121, 3) := by decide +kernel
theorem dX11_pair_70 : decode cX11_pair 70 = .ok (.astore 4, 2) := by decide +kernel
theorem dX11_pair_72 : decode cX11_pair 72 = .ok (.aload 4, 2) := by decide +kernel
theorem dX11_pair_74 : decode cX11_pair 74 = .ok (.getfield 134, 3) := by decide +kernel
theorem dX11_pair_77 : decode cX11_pair 77 = .ok (.iconst (-1), 1) := by decide +kernel
theorem dX11_pair_78 : decode cX11_pair 78 = .ok (.if_icmp .ne 20, 3) := by decide +kernel
theorem dX11_pair_81 : decode cX11_pair 81 = .ok (.aload 4, 2) := by decide +kernel
theorem dX11_pair_83 : decode cX11_pair 83 = .ok (.getfield 124, 3) := by decide +kernel
theorem dX11_pair_86 : decode cX11_pair 86 = .ok (.iload_n 2, 1) := by decide +kernel
theorem dX11_pair_87 : decode cX11_pair 87 = .ok (.iload_n 3, 1) := by decide +kernel
theorem dX11_pair_88 : decode cX11_pair 88 = .ok (.invokestatic 137, 3) := by decide +kernel
theorem dX11_pair_91 : decode cX11_pair 91 = .ok (.ifCond .ne 7, 3) := by decide +kernel
theorem dX11_pair_94 : decode cX11_pair 94 = .ok (.iconst 1, 1) := by decide +kernel
theorem dX11_pair_95 : decode cX11_pair 95 = .ok (.goto 4, 3) := by decide +kernel
theorem dX11_pair_98 : decode cX11_pair 98 = .ok (.iconst 0, 1) := by decide +kernel
theorem dX11_pair_99 : decode cX11_pair 99 = .ok (.istore 5, 2) := by decide +kernel
theorem dX11_pair_101 : decode cX11_pair 101 = .ok (.aload 4, 2) := by decide +kernel
theorem dX11_pair_103 : decode cX11_pair 103 = .ok (.getfield 124, 3) := by decide +kernel
theorem dX11_pair_106 : decode cX11_pair 106 = .ok (.iconst 2, 1) := by decide +kernel
theorem dX11_pair_107 : decode cX11_pair 107 = .ok (.newarray .int, 2) := by decide +kernel
theorem dX11_pair_109 : decode cX11_pair 109 = .ok (.dup, 1) := by decide +kernel
theorem dX11_pair_110 : decode cX11_pair 110 = .ok (.iconst 0, 1) := by decide +kernel
theorem dX11_pair_111 : decode cX11_pair 111 = .ok (.iload_n 2, 1) := by decide +kernel
theorem dX11_pair_112 : decode cX11_pair 112 = .ok (.iastore, 1) := by decide +kernel
theorem dX11_pair_113 : decode cX11_pair 113 = .ok (.dup, 1) := by decide +kernel
theorem dX11_pair_114 : decode cX11_pair 114 = .ok (.iconst 1, 1) := by decide +kernel
theorem dX11_pair_115 : decode cX11_pair 115 = .ok (.iload_n 3, 1) := by decide +kernel
theorem dX11_pair_116 : decode cX11_pair 116 = .ok (.iastore, 1) := by decide +kernel
theorem dX11_pair_117 : decode cX11_pair 117 = .ok (.invokeinterface 50 2, 5) := by decide +kernel
theorem dX11_pair_122 : decode cX11_pair 122 = .ok (.pop, 1) := by decide +kernel
theorem dX11_pair_123 : decode cX11_pair 123 = .ok (.iconst 0, 1) := by decide +kernel
theorem dX11_pair_124 : decode cX11_pair 124 = .ok (.istore 6, 2) := by decide +kernel
theorem dX11_pair_126 : decode cX11_pair 126 = .ok (.iload 6, 2) := by decide +kernel
theorem dX11_pair_128 : decode cX11_pair 128 = .ok (.aload_n 0, 1) := by decide +kernel
theorem dX11_pair_129 : decode cX11_pair 129 = .ok (.getfield 16, 3) := by decide +kernel
theorem dX11_pair_132 : decode cX11_pair 132 = .ok (.invokeinterface 30 1, 5) := by decide +kernel
theorem dX11_pair_137 : decode cX11_pair 137 = .ok (.if_icmp .ge 31, 3) := by decide +kernel
theorem dX11_pair_140 : decode cX11_pair 140 = .ok (.iload 5, 2) := by decide +kernel
theorem dX11_pair_142 : decode cX11_pair 142 = .ok (.ifCond .eq 17, 3) := by decide +kernel
theorem dX11_pair_145 : decode cX11_pair 145 = .ok (.aload_n 0, 1) := by decide +kernel
theorem dX11_pair_146 : decode cX11_pair 146 = .ok (.iload 6, 2) := by decide +kernel
theorem dX11_pair_148 : decode cX11_pair 148 = .ok (.invokevirtual 128, 3) := by decide +kernel
theorem dX11_pair_151 : decode cX11_pair 151 = .ok (.iconst 3, 1) := by decide +kernel
theorem dX11_pair_152 : decode cX11_pair 152 = .ok (.if_icmp .gt 7, 3) := by decide +kernel
theorem dX11_pair_155 : decode cX11_pair 155 = .ok (.iconst 1, 1) := by decide +kernel
theorem dX11_pair_156 : decode cX11_pair 156 = .ok (.goto 4, 3) := by decide +kernel
theorem dX11_pair_159 : decode cX11_pair 159 = .ok (.iconst 0, 1) := by decide +kernel
theorem dX11_pair_160 : decode cX11_pair 160 = .ok (.istore 5, 2) := by decide +kernel
theorem dX11_pair_162 : decode cX11_pair 162 = .ok (.iinc 6 1, 3) := by decide +kernel
theorem dX11_pair_165 : decode cX11_pair 165 = .ok (.goto (-39), 3) := by decide +kernel
theorem dX11_pair_168 : decode cX11_pair 168 = .ok (.aload 4, 2) := by decide +kernel
theorem dX11_pair_170 : decode cX11_pair 170 = .ok (.getfield 124, 3) := by decide +kernel
theorem dX11_pair_173 : decode cX11_pair 173 = .ok (.aload 4, 2) := by decide +kernel
theorem dX11_pair_175 : decode cX11_pair 175 = .ok (.getfield 124, 3) := by decide +kernel
theorem dX11_pair_178 : decode cX11_pair 178 = .ok (.invokeinterface 30 1, 5) := by decide +kernel
theorem dX11_pair_183 : decode cX11_pair 183 = .ok (.iconst 1, 1) := by decide +kernel
theorem dX11_pair_184 : decode cX11_pair 184 = .ok (.isub, 1) := by decide +kernel
theorem dX11_pair_185 : decode cX11_pair 185 = .ok (.invokeinterface 141 2, 5) := by decide +kernel
theorem dX11_pair_190 : decode cX11_pair 190 = .ok (.pop, 1) := by decide +kernel
theorem dX11_pair_191 : decode cX11_pair 191 = .ok (.aload_n 0, 1) := by decide +kernel
theorem dX11_pair_192 : decode cX11_pair 192 = .ok (.iload 5, 2) := by decide +kernel
theorem dX11_pair_194 : decode cX11_pair 194 = .ok (.iconst 3, 1) := by decide +kernel
theorem dX11_pair_195 : decode cX11_pair 195 = .ok (.invokevirtual 40, 3) := by decide +kernel
theorem dX11_pair_198 : decode cX11_pair 198 = .ok (.ifCond .ne 30, 3) := by decide +kernel
theorem dX11_pair_201 : decode cX11_pair 201 = .ok (.aload_n 0, 1) := by decide +kernel
theorem dX11_pair_202 : decode cX11_pair 202 = .ok (.aload 4, 2) := by decide +kernel
theorem dX11_pair_204 : decode cX11_pair 204 = .ok (.getfield 124, 3) := by decide +kernel
theorem dX11_pair_207 : decode cX11_pair 207 = .ok (.invokeinterface 30 1, 5) := by decide +kernel
theorem dX11_pair_212 : decode cX11_pair 212 = .ok (.iconst 4, 1) := by decide +kernel
theorem dX11_pair_213 : decode cX11_pair 213 = .ok (.if_icmp .ge 7, 3) := by decide +kernel
theorem dX11_pair_216 : decode cX11_pair 216 = .ok (.iconst 1, 1) := by decide +kernel
theorem dX11_pair_217 : decode cX11_pair 217 = .ok (.goto 4, 3) := by decide +kernel
theorem dX11_pair_220 : decode cX11_pair 220 = .ok (.iconst 0, 1) := by decide +kernel
theorem dX11_pair_221 : decode cX11_pair 221 = .ok (.iconst 4, 1) := by decide +kernel
theorem dX11_pair_222 : decode cX11_pair 222 = .ok (.invokevirtual 40, 3) := by decide +kernel
theorem dX11_pair_225 : decode cX11_pair 225 = .ok (.ifCond .eq 5, 3) := by decide +kernel
theorem dX11_pair_228 : decode cX11_pair 228 = .ok (.iconst 0, 1) := by decide +kernel
theorem dX11_pair_229 : decode cX11_pair 229 = .ok (.ireturn, 1) := by decide +kernel
theorem dX11_pair_230 : decode cX11_pair 230 = .ok (.aload 4, 2) := by decide +kernel
theorem dX11_pair_232 : decode cX11_pair 232 = .ok (.getfield 124, 3) := by decide +kernel
theorem dX11_pair_235 : decode cX11_pair 235 = .ok (.iconst 2, 1) := by decide +kernel
theorem dX11_pair_236 : decode cX11_pair 236 = .ok (.newarray .int, 2) := by decide +kernel
theorem dX11_pair_238 : decode cX11_pair 238 = .ok (.dup, 1) := by decide +kernel
theorem dX11_pair_239 : decode cX11_pair 239 = .ok (.iconst 0, 1) := by decide +kernel
theorem dX11_pair_240 : decode cX11_pair 240 = .ok (.iload_n 2, 1) := by decide +kernel
theorem dX11_pair_241 : decode cX11_pair 241 = .ok (.iastore, 1) := by decide +kernel
theorem dX11_pair_242 : decode cX11_pair 242 = .ok (.dup, 1) := by decide +kernel
theorem dX11_pair_243 : decode cX11_pair 243 = .ok (.iconst 1, 1) := by decide +kernel
theorem dX11_pair_244 : decode cX11_pair 244 = .ok (.iload_n 3, 1) := by decide +kernel
theorem dX11_pair_245 : decode cX11_pair 245 = .ok (.iastore, 1) := by decide +kernel
theorem dX11_pair_246 : decode cX11_pair 246 = .ok (.invokeinterface 50 2, 5) := by decide +kernel
theorem dX11_pair_251 : decode cX11_pair 251 = .ok (.pop, 1) := by decide +kernel
theorem dX11_pair_252 : decode cX11_pair 252 = .ok (.aload 4, 2) := by decide +kernel
theorem dX11_pair_254 : decode cX11_pair 254 = .ok (.getfield 124, 3) := by decide +kernel
theorem dX11_pair_257 : decode cX11_pair 257 = .ok (.invokeinterface 30 1, 5) := by decide +kernel
theorem dX11_pair_262 : decode cX11_pair 262 = .ok (.ireturn, 1) := by decide +kernel
theorem dX11_unpair_0 : decode cX11_unpair 0 = .ok (.aload_n 0, 1) := by decide +kernel
theorem dX11_unpair_1 : decode cX11_unpair 1 = .ok (.aload_n 0, 1) := by decide +kernel
theorem dX11_unpair_2 : decode cX11_unpair 2 = .ok (.iload_n 1, 1) := by decide +kernel
theorem dX11_unpair_3 : decode cX11_unpair 3 = .ok (.invokevirtual 131, 3) := by decide +kernel
theorem dX11_unpair_6 : decode cX11_unpair 6 = .ok (.iconst 1, 1) := by decide +kernel
theorem dX11_unpair_7 : decode cX11_unpair 7 = .ok (.invokevirtual 40, 3) := by decide +kernel
theorem dX11_unpair_10 : decode cX11_unpair 10 = .ok (.ifCond .ne 60, 3) := by decide +kernel
theorem dX11_unpair_13 : decode cX11_unpair 13 = .ok (.aload_n 0, 1) := by decide +kernel
theorem dX11_unpair_14 : decode cX11_unpair 14 = .ok (.aload_n 0, 1) := by decide +kernel
theorem dX11_unpair_15 : decode cX11_unpair 15 = .ok (.getfield 16, 3) := by decide +kernel
theorem dX11_unpair_18 : decode cX11_unpair 18 = .ok (.iload_n 1, 1) := by decide +kernel
theorem dX11_unpair_19 : decode cX11_unpair 19 = .ok (.invokeinterface 54 2, 5) := by decide +kernel
theorem dX11_unpair_24 : decode cX11_unpair 24 = .ok (.checkcast 121, 3) := by decide +kernel
theorem dX11_unpair_27 : decode cX11_unpair 27 = .ok (.getfield 134, 3) := by decide +kernel
theorem dX11_unpair_30 : decode cX11_unpair 30 = .ok (.iconst (-1), 1) := by decide +kernel
theorem dX11_unpair_31 : decode cX11_unpair 31 = .ok (.if_icmp .ne 31, 3) := by decide +kernel
theorem dX11_unpair_34 : decode cX11_unpair 34 = .ok (.aload_n 0, 1) := by decide +kernel
theorem dX11_unpair_35 : decode cX11_unpair 35 = .ok (.getfield 16, 3) := by decide +kernel
theorem dX11_unpair_38 : decode cX11_unpair 38 = .ok (.iload_n 1, 1) := by decide +kernel
theorem dX11_unpair_39 : decode cX11_unpair 39 = .ok (.invokeinterface 54 2, 5) := by decide +kernel
theorem dX11_unpair_44 : decode cX11_unpair 44 = .ok (.checkcast 121, 3) := by decide +kernel
theorem dX11_unpair_47 : decode cX11_unpair 47 = .ok (.getfield 124, 3) := by decide +kernel
theorem dX11_unpair_50 : decode cX11_unpair 50 = .ok (.invokeinterface 144 1, 5) := by decide +kernel
theorem dX11_unpair_55 : decode cX11_unpair 55 = .ok (.ifCond .ne 7, 3) := by decide +kernel
theorem dX11_unpair_58 : decode cX11_unpair 58 = .ok (.iconst 1, 1) := by decide +kernel
theorem dX11_unpair_59 : decode cX11_unpair 59 = .ok (.goto 4, 3) := by decide +kernel
theorem dX11_unpair_62 : decode cX11_unpair 62 = .ok (.iconst 0, 1) := by decide +kernel
theorem dX11_unpair_63 : decode cX11_unpair 63 = .ok (.iconst 2, 1) := by decide +kernel
theorem dX11_unpair_64 : decode cX11_unpair 64 = .ok (.invokevirtual 40, 3) := by decide +kernel
theorem dX11_unpair_67 : decode cX11_unpair 67 = .ok (.ifCond .eq 5, 3) := by decide +kernel
theorem dX11_unpair_70 : decode cX11_unpair 70 = .ok (.iconst 0, 1) := by decide +kernel
theorem dX11_unpair_71 : decode cX11_unpair 71 = .ok (.ireturn, 1) := by decide +kernel
theorem dX11_unpair_72 : decode cX11_unpair 72 = .ok (.aload_n 0, 1) := by decide +kernel
theorem dX11_unpair_73 : decode cX11_unpair 73 = .ok (.getfield 16, 3) := by decide +kernel
theorem dX11_unpair_76 : decode cX11_unpair 76 = .ok (.iload_n 1, 1) := by decide +kernel
theorem dX11_unpair_77 : decode cX11_unpair 77 = .ok (.invokeinterface 54 2, 5) := by decide +kernel
theorem dX11_unpair_82 : decode cX11_unpair 82 = .ok (.checkcast 121, 3) := by decide +kernel
theorem dX11_unpair_85 : decode cX11_unpair 85 = .ok (.getfield 124, 3) := by decide +kernel
theorem dX11_unpair_88 : decode cX11_unpair 88 = .ok (.astore_n 2, 1) := by decide +kernel
theorem dX11_unpair_89 : decode cX11_unpair 89 = .ok (.aload_n 2, 1) := by decide +kernel
theorem dX11_unpair_90 : decode cX11_unpair 90 = .ok (.aload_n 2, 1) := by decide +kernel
theorem dX11_unpair_91 : decode cX11_unpair 91 = .ok (.invokeinterface 30 1, 5) := by decide +kernel
theorem dX11_unpair_96 : decode cX11_unpair 96 = .ok (.iconst 1, 1) := by decide +kernel
theorem dX11_unpair_97 : decode cX11_unpair 97 = .ok (.isub, 1) := by decide +kernel
theorem dX11_unpair_98 : decode cX11_unpair 98 = .ok (.invokeinterface 141 2, 5) := by decide +kernel
theorem dX11_unpair_103 : decode cX11_unpair 103 = .ok (.pop, 1) := by decide +kernel
theorem dX11_unpair_104 : decode cX11_unpair 104 = .ok (.aload_n 2, 1) := by decide +kernel
theorem dX11_unpair_105 : decode cX11_unpair 105 = .ok (.invokeinterface 30 1, 5) := by decide +kernel
theorem dX11_unpair_110 : decode cX11_unpair 110 = .ok (.ireturn, 1) := by decide +kernel
theorem dX11_rank_0 : decode cX11_rank 0 = .ok (.aload_n 0, 1) := by decide +kernel
theorem dX11_rank_1 : decode cX11_rank 1 = .ok (.aload_n 0, 1) := by decide +kernel
theorem dX11_rank_2 : decode cX11_rank 2 = .ok (.iload_n 1, 1) := by decide +kernel
theorem dX11_rank_3 : decode cX11_rank 3 = .ok (.invokevirtual 131, 3) := by decide +kernel
theorem dX11_rank_6 : decode cX11_rank 6 = .ok (.iconst 1, 1) := by decide +kernel
theorem dX11_rank_7 : decode cX11_rank 7 = .ok (.invokevirtual 40, 3) := by decide +kernel
theorem dX11_rank_10 : decode cX11_rank 10 = .ok (.ifCond .eq 7, 3) := by decide +kernel
theorem dX11_rank_13 : decode cX11_rank 13 = .ok (.iconst 0, 1) := by decide +kernel
theorem dX11_rank_14 : decode cX11_rank 14 = .ok (.goto 8, 3) := by decide +kernel
theorem dX11_rank_17 : decode cX11_rank 17 = .ok (.aload_n 0, 1) := by decide +kernel
theorem dX11_rank_18 : decode cX11_rank 18 = .ok (.iload_n 1, 1) := by decide +kernel
theorem dX11_rank_19 : decode cX11_rank 19 = .ok (.invokevirtual 128, 3) := by decide +kernel
theorem dX11_rank_22 : decode cX11_rank 22 = .ok (.ireturn, 1) := by decide +kernel
theorem dX11_ofCode_0 : decode cX11_ofCode 0 = .ok (.iconst 0, 1) := by decide +kernel
theorem dX11_ofCode_1 : decode cX11_ofCode 1 = .ok (.istore_n 2, 1) := by decide +kernel
theorem dX11_ofCode_2 : decode cX11_ofCode 2 = .ok (.iload_n 2, 1) := by decide +kernel
theorem dX11_ofCode_3 : decode cX11_ofCode 3 = .ok (.aload_n 0, 1) := by decide +kernel
theorem dX11_ofCode_4 : decode cX11_ofCode 4 = .ok (.getfield 16, 3) := by decide +kernel
theorem dX11_ofCode_7 : decode cX11_ofCode 7 = .ok (.invokeinterface 30 1, 5) := by decide +kernel
theorem dX11_ofCode_12 : decode cX11_ofCode 12 = .ok (.if_icmp .ge 31, 3) := by decide +kernel
theorem dX11_ofCode_15 : decode cX11_ofCode 15 = .ok (.aload_n 0, 1) := by decide +kernel
theorem dX11_ofCode_16 : decode cX11_ofCode 16 = .ok (.getfield 16, 3) := by decide +kernel
theorem dX11_ofCode_19 : decode cX11_ofCode 19 = .ok (.iload_n 2, 1) := by decide +kernel
theorem dX11_ofCode_20 : decode cX11_ofCode 20 = .ok (.invokeinterface 54 2, 5) := by decide +kernel
theorem dX11_ofCode_25 : decode cX11_ofCode 25 = .ok (.checkcast 121, 3) := by decide +kernel
theorem dX11_ofCode_28 : decode cX11_ofCode 28 = .ok (.getfield 134, 3) := by decide +kernel
theorem dX11_ofCode_31 : decode cX11_ofCode 31 = .ok (.iload_n 1, 1) := by decide +kernel
theorem dX11_ofCode_32 : decode cX11_ofCode 32 = .ok (.if_icmp .ne 5, 3) := by decide +kernel
theorem dX11_ofCode_35 : decode cX11_ofCode 35 = .ok (.iload_n 2, 1) := by decide +kernel
theorem dX11_ofCode_36 : decode cX11_ofCode 36 = .ok (.ireturn, 1) := by decide +kernel
theorem dX11_ofCode_37 : decode cX11_ofCode 37 = .ok (.iinc 2 1, 3) := by decide +kernel
theorem dX11_ofCode_40 : decode cX11_ofCode 40 = .ok (.goto (-38), 3) := by decide +kernel
theorem dX11_ofCode_43 : decode cX11_ofCode 43 = .ok (.iconst (-1), 1) := by decide +kernel
theorem dX11_ofCode_44 : decode cX11_ofCode 44 = .ok (.ireturn, 1) := by decide +kernel
theorem dX11_make_0 : decode cX11_make 0 = .ok (.aload_n 0, 1) := by decide +kernel
theorem dX11_make_1 : decode cX11_make 1 = .ok (.iload_n 1, 1) := by decide +kernel
theorem dX11_make_2 : decode cX11_make 2 = .ok (.invokevirtual 147, 3) := by decide +kernel
theorem dX11_make_5 : decode cX11_make 5 = .ok (.iconst (-1), 1) := by decide +kernel
theorem dX11_make_6 : decode cX11_make 6 = .ok (.if_icmp .eq 9, 3) := by decide +kernel
theorem dX11_make_9 : decode cX11_make 9 = .ok (.aload_n 0, 1) := by decide +kernel
theorem dX11_make_10 : decode cX11_make 10 = .ok (.iload_n 1, 1) := by decide +kernel
theorem dX11_make_11 : decode cX11_make 11 = .ok (.invokevirtual 147, 3) := by decide +kernel
theorem dX11_make_14 : decode cX11_make 14 = .ok (.ireturn, 1) := by decide +kernel
theorem dX11_make_15 : decode cX11_make 15 = .ok (.new 121, 3) := by decide +kernel
theorem dX11_make_18 : decode cX11_make 18 = .ok (.dup, 1) := by decide +kernel
theorem dX11_make_19 : decode cX11_make 19 = .ok (.invokespecial 123, 3) := by decide +kernel
theorem dX11_make_22 : decode cX11_make 22 = .ok (.astore_n 2, 1) := by decide +kernel
theorem dX11_make_23 : decode cX11_make 23 = .ok (.aload_n 2, 1) := by decide +kernel
theorem dX11_make_24 : decode cX11_make 24 = .ok (.iload_n 1, 1) := by decide +kernel
theorem dX11_make_25 : decode cX11_make 25 = .ok (.putfield 134, 3) := by decide +kernel
theorem dX11_make_28 : decode cX11_make 28 = .ok (.iconst 0, 1) := by decide +kernel
theorem dX11_make_29 : decode cX11_make 29 = .ok (.istore_n 3, 1) := by decide +kernel
theorem dX11_make_30 : decode cX11_make 30 = .ok (.iload_n 3, 1) := by decide +kernel
theorem dX11_make_31 : decode cX11_make 31 = .ok (.iconst 4, 1) := by decide +kernel
theorem dX11_make_32 : decode cX11_make 32 = .ok (.if_icmp .ge 42, 3) := by decide +kernel
theorem dX11_make_35 : decode cX11_make 35 = .ok (.iload_n 1, 1) := by decide +kernel
theorem dX11_make_36 : decode cX11_make 36 = .ok (.iload_n 3, 1) := by decide +kernel
theorem dX11_make_37 : decode cX11_make 37 = .ok (.invokestatic 61, 3) := by decide +kernel
theorem dX11_make_40 : decode cX11_make 40 = .ok (.ifCond .eq 28, 3) := by decide +kernel
theorem dX11_make_43 : decode cX11_make 43 = .ok (.aload_n 2, 1) := by decide +kernel
theorem dX11_make_44 : decode cX11_make 44 = .ok (.getfield 124, 3) := by decide +kernel
theorem dX11_make_47 : decode cX11_make 47 = .ok (.iconst 2, 1) := by decide +kernel
theorem dX11_make_48 : decode cX11_make 48 = .ok (.newarray .int, 2) := by decide +kernel
theorem dX11_make_50 : decode cX11_make 50 = .ok (.dup, 1) := by decide +kernel
theorem dX11_make_51 : decode cX11_make 51 = .ok (.iconst 0, 1) := by decide +kernel
theorem dX11_make_52 : decode cX11_make 52 = .ok (.aload_n 0, 1) := by decide +kernel
theorem dX11_make_53 : decode cX11_make 53 = .ok (.iload_n 3, 1) := by decide +kernel
theorem dX11_make_54 : decode cX11_make 54 = .ok (.invokevirtual 150, 3) := by decide +kernel
theorem dX11_make_57 : decode cX11_make 57 = .ok (.iastore, 1) := by decide +kernel
theorem dX11_make_58 : decode cX11_make 58 = .ok (.dup, 1) := by decide +kernel
theorem dX11_make_59 : decode cX11_make 59 = .ok (.iconst 1, 1) := by decide +kernel
theorem dX11_make_60 : decode cX11_make 60 = .ok (.iconst 0, 1) := by decide +kernel
theorem dX11_make_61 : decode cX11_make 61 = .ok (.iastore, 1) := by decide +kernel
theorem dX11_make_62 : decode cX11_make 62 = .ok (.invokeinterface 50 2, 5) := by decide +kernel
theorem dX11_make_67 : decode cX11_make 67 = .ok (.pop, 1) := by decide +kernel
theorem dX11_make_68 : decode cX11_make 68 = .ok (.iinc 3 1, 3) := by decide +kernel
theorem dX11_make_71 : decode cX11_make 71 = .ok (.goto (-41), 3) := by decide +kernel
theorem dX11_make_74 : decode cX11_make 74 = .ok (.aload_n 0, 1) := by decide +kernel
theorem dX11_make_75 : decode cX11_make 75 = .ok (.getfield 16, 3) := by decide +kernel
theorem dX11_make_78 : decode cX11_make 78 = .ok (.aload_n 2, 1) := by decide +kernel
theorem dX11_make_79 : decode cX11_make 79 = .ok (.invokeinterface 50 2, 5) := by decide +kernel
theorem dX11_make_84 : decode cX11_make 84 = .ok (.pop, 1) := by decide +kernel
theorem dX11_make_85 : decode cX11_make 85 = .ok (.aload_n 0, 1) := by decide +kernel
theorem dX11_make_86 : decode cX11_make 86 = .ok (.getfield 16, 3) := by decide +kernel
theorem dX11_make_89 : decode cX11_make 89 = .ok (.invokeinterface 30 1, 5) := by decide +kernel
theorem dX11_make_94 : decode cX11_make 94 = .ok (.iconst 1, 1) := by decide +kernel
theorem dX11_make_95 : decode cX11_make 95 = .ok (.isub, 1) := by decide +kernel
theorem dX11_make_96 : decode cX11_make 96 = .ok (.ireturn, 1) := by decide +kernel
theorem dX11_standard_0 : decode cX11_standard 0 = .ok (.aload_n 0, 1) := by decide +kernel
theorem dX11_standard_1 : decode cX11_standard 1 = .ok (.iload_n 1, 1) := by decide +kernel
theorem dX11_standard_2 : decode cX11_standard 2 = .ok (.iconst 0, 1) := by decide +kernel
theorem dX11_standard_3 : decode cX11_standard 3 = .ok (.bipush 15, 2) := by decide +kernel
theorem dX11_standard_5 : decode cX11_standard 5 = .ok (.invokestatic 36, 3) := by decide +kernel
theorem dX11_standard_8 : decode cX11_standard 8 = .ok (.iconst 1, 1) := by decide +kernel
theorem dX11_standard_9 : decode cX11_standard 9 = .ok (.invokevirtual 40, 3) := by decide +kernel
theorem dX11_standard_12 : decode cX11_standard 12 = .ok (.ifCond .ne 60, 3) := by decide +kernel
theorem dX11_standard_15 : decode cX11_standard 15 = .ok (.aload_n 0, 1) := by decide +kernel
theorem dX11_standard_16 : decode cX11_standard 16 = .ok (.aload_n 0, 1) := by decide +kernel
theorem dX11_standard_17 : decode cX11_standard 17 = .ok (.getfield 10, 3) := by decide +kernel
theorem dX11_standard_20 : decode cX11_standard 20 = .ok (.invokeinterface 144 1, 5) := by decide +kernel
theorem dX11_standard_25 : decode cX11_standard 25 = .ok (.ifCond .ne 39, 3) := by decide +kernel
theorem dX11_standard_28 : decode cX11_standard 28 = .ok (.aload_n 0, 1) := by decide +kernel
theorem dX11_standard_29 : decode cX11_standard 29 = .ok (.getfield 10, 3) := by decide +kernel
theorem dX11_standard_32 : decode cX11_standard 32 = .ok (.iconst 0, 1) := by decide +kernel
theorem dX11_standard_33 : decode cX11_standard 33 = .ok (.invokeinterface 54 2, 5) := by decide +kernel
theorem dX11_standard_38 : decode cX11_standard 38 = .ok (.checkcast 45, 3) := by decide +kernel
theorem dX11_standard_41 : decode cX11_standard 41 = .ok (.invokevirtual 58, 3) := by decide +kernel
theorem dX11_standard_44 : decode cX11_standard 44 = .ok (.iconst 1, 1) := by decide +kernel
theorem dX11_standard_45 : decode cX11_standard 45 = .ok (.aload_n 0, 1) := by decide +kernel
theorem dX11_standard_46 : decode cX11_standard 46 = .ok (.getfield 10, 3) := by decide +kernel
theorem dX11_standard_49 : decode cX11_standard 49 = .ok (.invokeinterface 30 1, 5) := by decide +kernel
theorem dX11_standard_54 : decode cX11_standard 54 = .ok (.ishl, 1) := by decide +kernel
theorem dX11_standard_55 : decode cX11_standard 55 = .ok (.iconst 1, 1) := by decide +kernel
theorem dX11_standard_56 : decode cX11_standard 56 = .ok (.isub, 1) := by decide +kernel
theorem dX11_standard_57 : decode cX11_standard 57 = .ok (.if_icmp .ne 7, 3) := by decide +kernel
theorem dX11_standard_60 : decode cX11_standard 60 = .ok (.iconst 1, 1) := by decide +kernel
theorem dX11_standard_61 : decode cX11_standard 61 = .ok (.goto 4, 3) := by decide +kernel
theorem dX11_standard_64 : decode cX11_standard 64 = .ok (.iconst 0, 1) := by decide +kernel
theorem dX11_standard_65 : decode cX11_standard 65 = .ok (.iconst 2, 1) := by decide +kernel
theorem dX11_standard_66 : decode cX11_standard 66 = .ok (.invokevirtual 40, 3) := by decide +kernel
theorem dX11_standard_69 : decode cX11_standard 69 = .ok (.ifCond .eq 5, 3) := by decide +kernel
theorem dX11_standard_72 : decode cX11_standard 72 = .ok (.iconst 0, 1) := by decide +kernel
theorem dX11_standard_73 : decode cX11_standard 73 = .ok (.ireturn, 1) := by decide +kernel
theorem dX11_standard_74 : decode cX11_standard 74 = .ok (.aload_n 0, 1) := by decide +kernel
theorem dX11_standard_75 : decode cX11_standard 75 = .ok (.getfield 16, 3) := by decide +kernel
theorem dX11_standard_78 : decode cX11_standard 78 = .ok (.invokeinterface 30 1, 5) := by decide +kernel
theorem dX11_standard_83 : decode cX11_standard 83 = .ok (.istore_n 2, 1) := by decide +kernel
theorem dX11_standard_84 : decode cX11_standard 84 = .ok (.aload_n 0, 1) := by decide +kernel
theorem dX11_standard_85 : decode cX11_standard 85 = .ok (.iload_n 1, 1) := by decide +kernel
theorem dX11_standard_86 : decode cX11_standard 86 = .ok (.invokevirtual 150, 3) := by decide +kernel
theorem dX11_standard_89 : decode cX11_standard 89 = .ok (.istore_n 3, 1) := by decide +kernel
theorem dX11_standard_90 : decode cX11_standard 90 = .ok (.aload_n 0, 1) := by decide +kernel
theorem dX11_standard_91 : decode cX11_standard 91 = .ok (.getfield 16, 3) := by decide +kernel
theorem dX11_standard_94 : decode cX11_standard 94 = .ok (.invokeinterface 30 1, 5) := by decide +kernel
theorem dX11_standard_99 : decode cX11_standard 99 = .ok (.bipush 12, 2) := by decide +kernel
theorem dX11_standard_101 : decode cX11_standard 101 = .ok (.if_icmp .gt 7, 3) := by decide +kernel
theorem dX11_standard_104 : decode cX11_standard 104 = .ok (.iconst 1, 1) := by decide +kernel
theorem dX11_standard_105 : decode cX11_standard 105 = .ok (.goto 4, 3) := by decide +kernel
theorem dX11_standard_108 : decode cX11_standard 108 = .ok (.iconst 0, 1) := by decide +kernel
theorem dX11_standard_109 : decode cX11_standard 109 = .ok (.istore 4, 2) := by decide +kernel
theorem dX11_standard_111 : decode cX11_standard 111 = .ok (.iload 4, 2) := by decide +kernel
theorem dX11_standard_113 : decode cX11_standard 113 = .ok (.ifCond .ne 40, 3) := by decide +kernel
theorem dX11_standard_116 : decode cX11_standard 116 = .ok (.aload_n 0, 1) := by decide +kernel
theorem dX11_standard_117 : decode cX11_standard 117 = .ok (.getfield 16, 3) := by decide +kernel
theorem dX11_standard_120 : decode cX11_standard 120 = .ok (.invokeinterface 30 1, 5) := by decide +kernel
theorem dX11_standard_125 : decode cX11_standard 125 = .ok (.iload_n 2, 1) := by decide +kernel
theorem dX11_standard_126 : decode cX11_standard 126 = .ok (.if_icmp .le 27, 3) := by decide +kernel
theorem dX11_standard_129 : decode cX11_standard 129 = .ok (.aload_n 0, 1) := by decide +kernel
theorem dX11_standard_130 : decode cX11_standard 130 = .ok (.getfield 16, 3) := by decide +kernel
theorem dX11_standard_133 : decode cX11_standard 133 = .ok (.aload_n 0, 1) := by decide +kernel
theorem dX11_standard_134 : decode cX11_standard 134 = .ok (.getfield 16, 3) := by decide +kernel
theorem dX11_standard_137 : decode cX11_standard 137 = .ok (.invokeinterface 30 1, 5) := by decide +kernel
theorem dX11_standard_142 : decode cX11_standard 142 = .ok (.iconst 1, 1) := by decide +kernel
theorem dX11_standard_143 : decode cX11_standard 143 = .ok (.isub, 1) := by decide +kernel
theorem dX11_standard_144 : decode cX11_standard 144 = .ok (.invokeinterface 141 2, 5) := by decide +kernel
theorem dX11_standard_149 : decode cX11_standard 149 = .ok (.pop, 1) := by decide +kernel
theorem dX11_standard_150 : decode cX11_standard 150 = .ok (.goto (-39), 3) := by decide +kernel
theorem dX11_standard_153 : decode cX11_standard 153 = .ok (.aload_n 0, 1) := by decide +kernel
theorem dX11_standard_154 : decode cX11_standard 154 = .ok (.iload 4, 2) := by decide +kernel
theorem dX11_standard_156 : decode cX11_standard 156 = .ok (.iconst 3, 1) := by decide +kernel
theorem dX11_standard_157 : decode cX11_standard 157 = .ok (.invokevirtual 40, 3) := by decide +kernel
theorem dX11_standard_160 : decode cX11_standard 160 = .ok (.ifCond .eq 7, 3) := by decide +kernel
theorem dX11_standard_163 : decode cX11_standard 163 = .ok (.iconst 0, 1) := by decide +kernel
theorem dX11_standard_164 : decode cX11_standard 164 = .ok (.goto 4, 3) := by decide +kernel
theorem dX11_standard_167 : decode cX11_standard 167 = .ok (.iload_n 3, 1) := by decide +kernel
theorem dX11_standard_168 : decode cX11_standard 168 = .ok (.ireturn, 1) := by decide +kernel
theorem dX11_becoming_0 : decode cX11_becoming 0 = .ok (.iconst 0, 1) := by decide +kernel
theorem dX11_becoming_1 : decode cX11_becoming 1 = .ok (.istore_n 3, 1) := by decide +kernel
theorem dX11_becoming_2 : decode cX11_becoming 2 = .ok (.aload_n 0, 1) := by decide +kernel
theorem dX11_becoming_3 : decode cX11_becoming 3 = .ok (.getfield 16, 3) := by decide +kernel
theorem dX11_becoming_6 : decode cX11_becoming 6 = .ok (.iload_n 1, 1) := by decide +kernel
theorem dX11_becoming_7 : decode cX11_becoming 7 = .ok (.invokeinterface 54 2, 5) := by decide +kernel
theorem dX11_becoming_12 : decode cX11_becoming 12 = .ok (.checkcast 121, 3) := by decide +kernel
theorem dX11_becoming_15 : decode cX11_becoming 15 = .ok (.getfield 124, 3) := by decide +kernel
theorem dX11_becoming_18 : decode cX11_becoming 18 = .ok (.invokeinterface 76 1, 5) := by decide +kernel
theorem dX11_becoming_23 : decode cX11_becoming 23 = .ok (.astore 4, 2) := by decide +kernel
theorem dX11_becoming_25 : decode cX11_becoming 25 = .ok (.aload 4, 2) := by decide +kernel
theorem dX11_becoming_27 : decode cX11_becoming 27 = .ok (.invokeinterface 80 1, 5) := by decide +kernel
theorem dX11_becoming_32 : decode cX11_becoming 32 = .ok (.ifCond .eq 48, 3) := by decide +kernel
theorem dX11_becoming_35 : decode cX11_becoming 35 = .ok (.aload 4, 2) := by decide +kernel
theorem dX11_becoming_37 : decode cX11_becoming 37 = .ok (.invokeinterface 86 1, 5) := by decide +kernel
theorem dX11_becoming_42 : decode cX11_becoming 42 = .ok (.checkcast 127, 3) := by decide +kernel
theorem dX11_becoming_45 : decode cX11_becoming 45 = .ok (.astore 5, 2) := by decide +kernel
theorem dX11_becoming_47 : decode cX11_becoming 47 = .ok (.iload_n 3, 1) := by decide +kernel
theorem dX11_becoming_48 : decode cX11_becoming 48 = .ok (.aload_n 0, 1) := by decide +kernel
theorem dX11_becoming_49 : decode cX11_becoming 49 = .ok (.iload_n 2, 1) := by decide +kernel
theorem dX11_becoming_50 : decode cX11_becoming 50 = .ok (.aload 5, 2) := by decide +kernel
theorem dX11_becoming_52 : decode cX11_becoming 52 = .ok (.iconst 1, 1) := by decide +kernel
theorem dX11_becoming_53 : decode cX11_becoming 53 = .ok (.iaload, 1) := by decide +kernel
theorem dX11_becoming_54 : decode cX11_becoming 54 = .ok (.invokevirtual 69, 3) := by decide +kernel
theorem dX11_becoming_57 : decode cX11_becoming 57 = .ok (.ifCond .eq 17, 3) := by decide +kernel
theorem dX11_becoming_60 : decode cX11_becoming 60 = .ok (.iconst 1, 1) := by decide +kernel
theorem dX11_becoming_61 : decode cX11_becoming 61 = .ok (.aload_n 0, 1) := by decide +kernel
theorem dX11_becoming_62 : decode cX11_becoming 62 = .ok (.aload 5, 2) := by decide +kernel
theorem dX11_becoming_64 : decode cX11_becoming 64 = .ok (.iconst 0, 1) := by decide +kernel
theorem dX11_becoming_65 : decode cX11_becoming 65 = .ok (.iaload, 1) := by decide +kernel
theorem dX11_becoming_66 : decode cX11_becoming 66 = .ok (.iload_n 2, 1) := by decide +kernel
theorem dX11_becoming_67 : decode cX11_becoming 67 = .ok (.invokevirtual 153, 3) := by decide +kernel
theorem dX11_becoming_70 : decode cX11_becoming 70 = .ok (.ishl, 1) := by decide +kernel
theorem dX11_becoming_71 : decode cX11_becoming 71 = .ok (.goto 4, 3) := by decide +kernel
theorem dX11_becoming_74 : decode cX11_becoming 74 = .ok (.iconst 0, 1) := by decide +kernel
theorem dX11_becoming_75 : decode cX11_becoming 75 = .ok (.ior, 1) := by decide +kernel
theorem dX11_becoming_76 : decode cX11_becoming 76 = .ok (.istore_n 3, 1) := by decide +kernel
theorem dX11_becoming_77 : decode cX11_becoming 77 = .ok (.goto (-52), 3) := by decide +kernel
theorem dX11_becoming_80 : decode cX11_becoming 80 = .ok (.iload_n 3, 1) := by decide +kernel
theorem dX11_becoming_81 : decode cX11_becoming 81 = .ok (.ireturn, 1) := by decide +kernel
theorem dX11_becomes_0 : decode cX11_becomes 0 = .ok (.aload_n 0, 1) := by decide +kernel
theorem dX11_becomes_1 : decode cX11_becomes 1 = .ok (.aload_n 0, 1) := by decide +kernel
theorem dX11_becomes_2 : decode cX11_becomes 2 = .ok (.iload_n 1, 1) := by decide +kernel
theorem dX11_becomes_3 : decode cX11_becomes 3 = .ok (.invokevirtual 131, 3) := by decide +kernel
theorem dX11_becomes_6 : decode cX11_becomes 6 = .ok (.iconst 1, 1) := by decide +kernel
theorem dX11_becomes_7 : decode cX11_becomes 7 = .ok (.invokevirtual 40, 3) := by decide +kernel
theorem dX11_becomes_10 : decode cX11_becomes 10 = .ok (.ifCond .ne 16, 3) := by decide +kernel
theorem dX11_becomes_13 : decode cX11_becomes 13 = .ok (.aload_n 0, 1) := by decide +kernel
theorem dX11_becomes_14 : decode cX11_becomes 14 = .ok (.aload_n 0, 1) := by decide +kernel
theorem dX11_becomes_15 : decode cX11_becomes 15 = .ok (.iload_n 2, 1) := by decide +kernel
theorem dX11_becomes_16 : decode cX11_becomes 16 = .ok (.invokevirtual 118, 3) := by decide +kernel
theorem dX11_becomes_19 : decode cX11_becomes 19 = .ok (.iconst 2, 1) := by decide +kernel
theorem dX11_becomes_20 : decode cX11_becomes 20 = .ok (.invokevirtual 40, 3) := by decide +kernel
theorem dX11_becomes_23 : decode cX11_becomes 23 = .ok (.ifCond .eq 7, 3) := by decide +kernel
theorem dX11_becomes_26 : decode cX11_becomes 26 = .ok (.iconst 0, 1) := by decide +kernel
theorem dX11_becomes_27 : decode cX11_becomes 27 = .ok (.goto 9, 3) := by decide +kernel
theorem dX11_becomes_30 : decode cX11_becomes 30 = .ok (.aload_n 0, 1) := by decide +kernel
theorem dX11_becomes_31 : decode cX11_becomes 31 = .ok (.iload_n 1, 1) := by decide +kernel
theorem dX11_becomes_32 : decode cX11_becomes 32 = .ok (.iload_n 2, 1) := by decide +kernel
theorem dX11_becomes_33 : decode cX11_becomes 33 = .ok (.invokevirtual 153, 3) := by decide +kernel
theorem dX11_becomes_36 : decode cX11_becomes 36 = .ok (.ireturn, 1) := by decide +kernel
theorem dX11_worlds_0 : decode cX11_worlds 0 = .ok (.iconst 0, 1) := by decide +kernel
theorem dX11_worlds_1 : decode cX11_worlds 1 = .ok (.istore 4, 2) := by decide +kernel
theorem dX11_worlds_3 : decode cX11_worlds 3 = .ok (.iconst 0, 1) := by decide +kernel
theorem dX11_worlds_4 : decode cX11_worlds 4 = .ok (.istore 5, 2) := by decide +kernel
theorem dX11_worlds_6 : decode cX11_worlds 6 = .ok (.iload 5, 2) := by decide +kernel
theorem dX11_worlds_8 : decode cX11_worlds 8 = .ok (.aload_n 0, 1) := by decide +kernel
theorem dX11_worlds_9 : decode cX11_worlds 9 = .ok (.getfield 10, 3) := by decide +kernel
theorem dX11_worlds_12 : decode cX11_worlds 12 = .ok (.invokeinterface 30 1, 5) := by decide +kernel
theorem dX11_worlds_17 : decode cX11_worlds 17 = .ok (.if_icmp .ge 79, 3) := by decide +kernel
theorem dX11_worlds_20 : decode cX11_worlds 20 = .ok (.aload_n 0, 1) := by decide +kernel
theorem dX11_worlds_21 : decode cX11_worlds 21 = .ok (.invokevirtual 97, 3) := by decide +kernel
theorem dX11_worlds_24 : decode cX11_worlds 24 = .ok (.iload 5, 2) := by decide +kernel
theorem dX11_worlds_26 : decode cX11_worlds 26 = .ok (.invokestatic 61, 3) := by decide +kernel
theorem dX11_worlds_29 : decode cX11_worlds 29 = .ok (.ifCond .ne 6, 3) := by decide +kernel
theorem dX11_worlds_32 : decode cX11_worlds 32 = .ok (.goto 58, 3) := by decide +kernel
theorem dX11_worlds_35 : decode cX11_worlds 35 = .ok (.aload_n 0, 1) := by decide +kernel
theorem dX11_worlds_36 : decode cX11_worlds 36 = .ok (.iload_n 1, 1) := by decide +kernel
theorem dX11_worlds_37 : decode cX11_worlds 37 = .ok (.iload 5, 2) := by decide +kernel
theorem dX11_worlds_39 : decode cX11_worlds 39 = .ok (.invokevirtual 153, 3) := by decide +kernel
theorem dX11_worlds_42 : decode cX11_worlds 42 = .ok (.istore 6, 2) := by decide +kernel
theorem dX11_worlds_44 : decode cX11_worlds 44 = .ok (.aload_n 0, 1) := by decide +kernel
theorem dX11_worlds_45 : decode cX11_worlds 45 = .ok (.iload_n 2, 1) := by decide +kernel
theorem dX11_worlds_46 : decode cX11_worlds 46 = .ok (.iload 5, 2) := by decide +kernel
theorem dX11_worlds_48 : decode cX11_worlds 48 = .ok (.invokevirtual 153, 3) := by decide +kernel
theorem dX11_worlds_51 : decode cX11_worlds 51 = .ok (.istore 7, 2) := by decide +kernel
theorem dX11_worlds_53 : decode cX11_worlds 53 = .ok (.iload 4, 2) := by decide +kernel
theorem dX11_worlds_55 : decode cX11_worlds 55 = .ok (.iload_n 3, 1) := by decide +kernel
theorem dX11_worlds_56 : decode cX11_worlds 56 = .ok (.ifCond .eq 16, 3) := by decide +kernel
theorem dX11_worlds_59 : decode cX11_worlds 59 = .ok (.iload 7, 2) := by decide +kernel
theorem dX11_worlds_61 : decode cX11_worlds 61 = .ok (.iload 6, 2) := by decide +kernel
theorem dX11_worlds_63 : decode cX11_worlds 63 = .ok (.invokestatic 61, 3) := by decide +kernel
theorem dX11_worlds_66 : decode cX11_worlds 66 = .ok (.ifCond .eq 20, 3) := by decide +kernel
theorem dX11_worlds_69 : decode cX11_worlds 69 = .ok (.goto 10, 3) := by decide +kernel
theorem dX11_worlds_72 : decode cX11_worlds 72 = .ok (.iload 6, 2) := by decide +kernel
theorem dX11_worlds_74 : decode cX11_worlds 74 = .ok (.iload 7, 2) := by decide +kernel
theorem dX11_worlds_76 : decode cX11_worlds 76 = .ok (.if_icmp .ne 10, 3) := by decide +kernel
theorem dX11_worlds_79 : decode cX11_worlds 79 = .ok (.iconst 1, 1) := by decide +kernel
theorem dX11_worlds_80 : decode cX11_worlds 80 = .ok (.iload 5, 2) := by decide +kernel
theorem dX11_worlds_82 : decode cX11_worlds 82 = .ok (.ishl, 1) := by decide +kernel
theorem dX11_worlds_83 : decode cX11_worlds 83 = .ok (.goto 4, 3) := by decide +kernel
theorem dX11_worlds_86 : decode cX11_worlds 86 = .ok (.iconst 0, 1) := by decide +kernel
theorem dX11_worlds_87 : decode cX11_worlds 87 = .ok (.ior, 1) := by decide +kernel
theorem dX11_worlds_88 : decode cX11_worlds 88 = .ok (.istore 4, 2) := by decide +kernel
theorem dX11_worlds_90 : decode cX11_worlds 90 = .ok (.iinc 5 1, 3) := by decide +kernel
theorem dX11_worlds_93 : decode cX11_worlds 93 = .ok (.goto (-87), 3) := by decide +kernel
theorem dX11_worlds_96 : decode cX11_worlds 96 = .ok (.iload 4, 2) := by decide +kernel
theorem dX11_worlds_98 : decode cX11_worlds 98 = .ok (.ireturn, 1) := by decide +kernel
theorem dX11_valueIn_0 : decode cX11_valueIn 0 = .ok (.aload_n 0, 1) := by decide +kernel
theorem dX11_valueIn_1 : decode cX11_valueIn 1 = .ok (.aload_n 0, 1) := by decide +kernel
theorem dX11_valueIn_2 : decode cX11_valueIn 2 = .ok (.iload_n 1, 1) := by decide +kernel
theorem dX11_valueIn_3 : decode cX11_valueIn 3 = .ok (.invokevirtual 131, 3) := by decide +kernel
theorem dX11_valueIn_6 : decode cX11_valueIn 6 = .ok (.ifCond .eq 15, 3) := by decide +kernel
theorem dX11_valueIn_9 : decode cX11_valueIn 9 = .ok (.aload_n 0, 1) := by decide +kernel
theorem dX11_valueIn_10 : decode cX11_valueIn 10 = .ok (.iload_n 2, 1) := by decide +kernel
theorem dX11_valueIn_11 : decode cX11_valueIn 11 = .ok (.invokevirtual 131, 3) := by decide +kernel
theorem dX11_valueIn_14 : decode cX11_valueIn 14 = .ok (.ifCond .eq 7, 3) := by decide +kernel
theorem dX11_valueIn_17 : decode cX11_valueIn 17 = .ok (.iconst 1, 1) := by decide +kernel
theorem dX11_valueIn_18 : decode cX11_valueIn 18 = .ok (.goto 4, 3) := by decide +kernel
theorem dX11_valueIn_21 : decode cX11_valueIn 21 = .ok (.iconst 0, 1) := by decide +kernel
theorem dX11_valueIn_22 : decode cX11_valueIn 22 = .ok (.iconst 1, 1) := by decide +kernel
theorem dX11_valueIn_23 : decode cX11_valueIn 23 = .ok (.invokevirtual 40, 3) := by decide +kernel
theorem dX11_valueIn_26 : decode cX11_valueIn 26 = .ok (.ifCond .eq 7, 3) := by decide +kernel
theorem dX11_valueIn_29 : decode cX11_valueIn 29 = .ok (.iconst 0, 1) := by decide +kernel
theorem dX11_valueIn_30 : decode cX11_valueIn 30 = .ok (.goto 10, 3) := by decide +kernel
theorem dX11_valueIn_33 : decode cX11_valueIn 33 = .ok (.aload_n 0, 1) := by decide +kernel
theorem dX11_valueIn_34 : decode cX11_valueIn 34 = .ok (.iload_n 1, 1) := by decide +kernel
theorem dX11_valueIn_35 : decode cX11_valueIn 35 = .ok (.iload_n 2, 1) := by decide +kernel
theorem dX11_valueIn_36 : decode cX11_valueIn 36 = .ok (.iconst 1, 1) := by decide +kernel
theorem dX11_valueIn_37 : decode cX11_valueIn 37 = .ok (.invokevirtual 156, 3) := by decide +kernel
theorem dX11_valueIn_40 : decode cX11_valueIn 40 = .ok (.ireturn, 1) := by decide +kernel
theorem dX11_valueLike_0 : decode cX11_valueLike 0 = .ok (.aload_n 0, 1) := by decide +kernel
theorem dX11_valueLike_1 : decode cX11_valueLike 1 = .ok (.aload_n 0, 1) := by decide +kernel
theorem dX11_valueLike_2 : decode cX11_valueLike 2 = .ok (.iload_n 1, 1) := by decide +kernel
theorem dX11_valueLike_3 : decode cX11_valueLike 3 = .ok (.invokevirtual 131, 3) := by decide +kernel
theorem dX11_valueLike_6 : decode cX11_valueLike 6 = .ok (.ifCond .eq 15, 3) := by decide +kernel
theorem dX11_valueLike_9 : decode cX11_valueLike 9 = .ok (.aload_n 0, 1) := by decide +kernel
theorem dX11_valueLike_10 : decode cX11_valueLike 10 = .ok (.iload_n 2, 1) := by decide +kernel
theorem dX11_valueLike_11 : decode cX11_valueLike 11 = .ok (.invokevirtual 131, 3) := by decide +kernel
theorem dX11_valueLike_14 : decode cX11_valueLike 14 = .ok (.ifCond .eq 7, 3) := by decide +kernel
theorem dX11_valueLike_17 : decode cX11_valueLike 17 = .ok (.iconst 1, 1) := by decide +kernel
theorem dX11_valueLike_18 : decode cX11_valueLike 18 = .ok (.goto 4, 3) := by decide +kernel
theorem dX11_valueLike_21 : decode cX11_valueLike 21 = .ok (.iconst 0, 1) := by decide +kernel
theorem dX11_valueLike_22 : decode cX11_valueLike 22 = .ok (.iconst 1, 1) := by decide +kernel
theorem dX11_valueLike_23 : decode cX11_valueLike 23 = .ok (.invokevirtual 40, 3) := by decide +kernel
theorem dX11_valueLike_26 : decode cX11_valueLike 26 = .ok (.ifCond .eq 7, 3) := by decide +kernel
theorem dX11_valueLike_29 : decode cX11_valueLike 29 = .ok (.iconst 0, 1) := by decide +kernel
theorem dX11_valueLike_30 : decode cX11_valueLike 30 = .ok (.goto 10, 3) := by decide +kernel
theorem dX11_valueLike_33 : decode cX11_valueLike 33 = .ok (.aload_n 0, 1) := by decide +kernel
theorem dX11_valueLike_34 : decode cX11_valueLike 34 = .ok (.iload_n 1, 1) := by decide +kernel
theorem dX11_valueLike_35 : decode cX11_valueLike 35 = .ok (.iload_n 2, 1) := by decide +kernel
theorem dX11_valueLike_36 : decode cX11_valueLike 36 = .ok (.iconst 0, 1) := by decide +kernel
theorem dX11_valueLike_37 : decode cX11_valueLike 37 = .ok (.invokevirtual 156, 3) := by decide +kernel
theorem dX11_valueLike_40 : decode cX11_valueLike 40 = .ok (.ireturn, 1) := by decide +kernel
theorem dX11_forcesIn_0 : decode cX11_forcesIn 0 = .ok (.aload_n 0, 1) := by decide +kernel
theorem dX11_forcesIn_1 : decode cX11_forcesIn 1 = .ok (.aload_n 0, 1) := by decide +kernel
theorem dX11_forcesIn_2 : decode cX11_forcesIn 2 = .ok (.iload_n 1, 1) := by decide +kernel
theorem dX11_forcesIn_3 : decode cX11_forcesIn 3 = .ok (.invokevirtual 65, 3) := by decide +kernel
theorem dX11_forcesIn_6 : decode cX11_forcesIn 6 = .ok (.ifCond .eq 23, 3) := by decide +kernel
theorem dX11_forcesIn_9 : decode cX11_forcesIn 9 = .ok (.aload_n 0, 1) := by decide +kernel
theorem dX11_forcesIn_10 : decode cX11_forcesIn 10 = .ok (.iload_n 2, 1) := by decide +kernel
theorem dX11_forcesIn_11 : decode cX11_forcesIn 11 = .ok (.invokevirtual 131, 3) := by decide +kernel
theorem dX11_forcesIn_14 : decode cX11_forcesIn 14 = .ok (.ifCond .eq 15, 3) := by decide +kernel
theorem dX11_forcesIn_17 : decode cX11_forcesIn 17 = .ok (.aload_n 0, 1) := by decide +kernel
theorem dX11_forcesIn_18 : decode cX11_forcesIn 18 = .ok (.iload_n 3, 1) := by decide +kernel
theorem dX11_forcesIn_19 : decode cX11_forcesIn 19 = .ok (.invokevirtual 131, 3) := by decide +kernel
theorem dX11_forcesIn_22 : decode cX11_forcesIn 22 = .ok (.ifCond .eq 7, 3) := by decide +kernel
theorem dX11_forcesIn_25 : decode cX11_forcesIn 25 = .ok (.iconst 1, 1) := by decide +kernel
theorem dX11_forcesIn_26 : decode cX11_forcesIn 26 = .ok (.goto 4, 3) := by decide +kernel
theorem dX11_forcesIn_29 : decode cX11_forcesIn 29 = .ok (.iconst 0, 1) := by decide +kernel
theorem dX11_forcesIn_30 : decode cX11_forcesIn 30 = .ok (.iconst 1, 1) := by decide +kernel
theorem dX11_forcesIn_31 : decode cX11_forcesIn 31 = .ok (.invokevirtual 40, 3) := by decide +kernel
theorem dX11_forcesIn_34 : decode cX11_forcesIn 34 = .ok (.ifCond .ne 25, 3) := by decide +kernel
theorem dX11_forcesIn_37 : decode cX11_forcesIn 37 = .ok (.aload_n 0, 1) := by decide +kernel
theorem dX11_forcesIn_38 : decode cX11_forcesIn 38 = .ok (.iload_n 1, 1) := by decide +kernel
theorem dX11_forcesIn_39 : decode cX11_forcesIn 39 = .ok (.invokevirtual 115, 3) := by decide +kernel
theorem dX11_forcesIn_42 : decode cX11_forcesIn 42 = .ok (.aload_n 0, 1) := by decide +kernel
theorem dX11_forcesIn_43 : decode cX11_forcesIn 43 = .ok (.iload_n 2, 1) := by decide +kernel
theorem dX11_forcesIn_44 : decode cX11_forcesIn 44 = .ok (.iload_n 3, 1) := by decide +kernel
theorem dX11_forcesIn_45 : decode cX11_forcesIn 45 = .ok (.iconst 1, 1) := by decide +kernel
theorem dX11_forcesIn_46 : decode cX11_forcesIn 46 = .ok (.invokevirtual 156, 3) := by decide +kernel
theorem dX11_forcesIn_49 : decode cX11_forcesIn 49 = .ok (.iconst (-1), 1) := by decide +kernel
theorem dX11_forcesIn_50 : decode cX11_forcesIn 50 = .ok (.ixor, 1) := by decide +kernel
theorem dX11_forcesIn_51 : decode cX11_forcesIn 51 = .ok (.iand, 1) := by decide +kernel
theorem dX11_forcesIn_52 : decode cX11_forcesIn 52 = .ok (.ifCond .ne 7, 3) := by decide +kernel
theorem dX11_forcesIn_55 : decode cX11_forcesIn 55 = .ok (.iconst 1, 1) := by decide +kernel
theorem dX11_forcesIn_56 : decode cX11_forcesIn 56 = .ok (.goto 4, 3) := by decide +kernel
theorem dX11_forcesIn_59 : decode cX11_forcesIn 59 = .ok (.iconst 0, 1) := by decide +kernel
theorem dX11_forcesIn_60 : decode cX11_forcesIn 60 = .ok (.ireturn, 1) := by decide +kernel
theorem dX11_forcesLike_0 : decode cX11_forcesLike 0 = .ok (.aload_n 0, 1) := by decide +kernel
theorem dX11_forcesLike_1 : decode cX11_forcesLike 1 = .ok (.aload_n 0, 1) := by decide +kernel
theorem dX11_forcesLike_2 : decode cX11_forcesLike 2 = .ok (.iload_n 1, 1) := by decide +kernel
theorem dX11_forcesLike_3 : decode cX11_forcesLike 3 = .ok (.invokevirtual 65, 3) := by decide +kernel
theorem dX11_forcesLike_6 : decode cX11_forcesLike 6 = .ok (.ifCond .eq 23, 3) := by decide +kernel
theorem dX11_forcesLike_9 : decode cX11_forcesLike 9 = .ok (.aload_n 0, 1) := by decide +kernel
theorem dX11_forcesLike_10 : decode cX11_forcesLike 10 = .ok (.iload_n 2, 1) := by decide +kernel
theorem dX11_forcesLike_11 : decode cX11_forcesLike 11 = .ok (.invokevirtual 131, 3) := by decide +kernel
theorem dX11_forcesLike_14 : decode cX11_forcesLike 14 = .ok (.ifCond .eq 15, 3) := by decide +kernel
theorem dX11_forcesLike_17 : decode cX11_forcesLike 17 = .ok (.aload_n 0, 1) := by decide +kernel
theorem dX11_forcesLike_18 : decode cX11_forcesLike 18 = .ok (.iload_n 3, 1) := by decide +kernel
theorem dX11_forcesLike_19 : decode cX11_forcesLike 19 = .ok (.invokevirtual 131, 3) := by decide +kernel
theorem dX11_forcesLike_22 : decode cX11_forcesLike 22 = .ok (.ifCond .eq 7, 3) := by decide +kernel
theorem dX11_forcesLike_25 : decode cX11_forcesLike 25 = .ok (.iconst 1, 1) := by decide +kernel
theorem dX11_forcesLike_26 : decode cX11_forcesLike 26 = .ok (.goto 4, 3) := by decide +kernel
theorem dX11_forcesLike_29 : decode cX11_forcesLike 29 = .ok (.iconst 0, 1) := by decide +kernel
theorem dX11_forcesLike_30 : decode cX11_forcesLike 30 = .ok (.iconst 1, 1) := by decide +kernel
theorem dX11_forcesLike_31 : decode cX11_forcesLike 31 = .ok (.invokevirtual 40, 3) := by decide +kernel
theorem dX11_forcesLike_34 : decode cX11_forcesLike 34 = .ok (.ifCond .ne 25, 3) := by decide +kernel
theorem dX11_forcesLike_37 : decode cX11_forcesLike 37 = .ok (.aload_n 0, 1) := by decide +kernel
theorem dX11_forcesLike_38 : decode cX11_forcesLike 38 = .ok (.iload_n 1, 1) := by decide +kernel
theorem dX11_forcesLike_39 : decode cX11_forcesLike 39 = .ok (.invokevirtual 115, 3) := by decide +kernel
theorem dX11_forcesLike_42 : decode cX11_forcesLike 42 = .ok (.aload_n 0, 1) := by decide +kernel
theorem dX11_forcesLike_43 : decode cX11_forcesLike 43 = .ok (.iload_n 2, 1) := by decide +kernel
theorem dX11_forcesLike_44 : decode cX11_forcesLike 44 = .ok (.iload_n 3, 1) := by decide +kernel
theorem dX11_forcesLike_45 : decode cX11_forcesLike 45 = .ok (.iconst 0, 1) := by decide +kernel
theorem dX11_forcesLike_46 : decode cX11_forcesLike 46 = .ok (.invokevirtual 156, 3) := by decide +kernel
theorem dX11_forcesLike_49 : decode cX11_forcesLike 49 = .ok (.iconst (-1), 1) := by decide +kernel
theorem dX11_forcesLike_50 : decode cX11_forcesLike 50 = .ok (.ixor, 1) := by decide +kernel
theorem dX11_forcesLike_51 : decode cX11_forcesLike 51 = .ok (.iand, 1) := by decide +kernel
theorem dX11_forcesLike_52 : decode cX11_forcesLike 52 = .ok (.ifCond .ne 7, 3) := by decide +kernel
theorem dX11_forcesLike_55 : decode cX11_forcesLike 55 = .ok (.iconst 1, 1) := by decide +kernel
theorem dX11_forcesLike_56 : decode cX11_forcesLike 56 = .ok (.goto 4, 3) := by decide +kernel
theorem dX11_forcesLike_59 : decode cX11_forcesLike 59 = .ok (.iconst 0, 1) := by decide +kernel
theorem dX11_forcesLike_60 : decode cX11_forcesLike 60 = .ok (.ireturn, 1) := by decide +kernel
theorem dX11_mix_0 : decode cX11_mix 0 = .ok (.aload_n 0, 1) := by decide +kernel
theorem dX11_mix_1 : decode cX11_mix 1 = .ok (.aload_n 0, 1) := by decide +kernel
theorem dX11_mix_2 : decode cX11_mix 2 = .ok (.iload_n 1, 1) := by decide +kernel
theorem dX11_mix_3 : decode cX11_mix 3 = .ok (.invokevirtual 131, 3) := by decide +kernel
theorem dX11_mix_6 : decode cX11_mix 6 = .ok (.ifCond .eq 32, 3) := by decide +kernel
theorem dX11_mix_9 : decode cX11_mix 9 = .ok (.aload_n 0, 1) := by decide +kernel
theorem dX11_mix_10 : decode cX11_mix 10 = .ok (.iload_n 3, 1) := by decide +kernel
theorem dX11_mix_11 : decode cX11_mix 11 = .ok (.invokevirtual 131, 3) := by decide +kernel
theorem dX11_mix_14 : decode cX11_mix 14 = .ok (.ifCond .eq 24, 3) := by decide +kernel
theorem dX11_mix_17 : decode cX11_mix 17 = .ok (.aload_n 0, 1) := by decide +kernel
theorem dX11_mix_18 : decode cX11_mix 18 = .ok (.iload_n 2, 1) := by decide +kernel
theorem dX11_mix_19 : decode cX11_mix 19 = .ok (.invokevirtual 65, 3) := by decide +kernel
theorem dX11_mix_22 : decode cX11_mix 22 = .ok (.ifCond .eq 16, 3) := by decide +kernel
theorem dX11_mix_25 : decode cX11_mix 25 = .ok (.aload_n 0, 1) := by decide +kernel
theorem dX11_mix_26 : decode cX11_mix 26 = .ok (.iload 4, 2) := by decide +kernel
theorem dX11_mix_28 : decode cX11_mix 28 = .ok (.invokevirtual 65, 3) := by decide +kernel
theorem dX11_mix_31 : decode cX11_mix 31 = .ok (.ifCond .eq 7, 3) := by decide +kernel
theorem dX11_mix_34 : decode cX11_mix 34 = .ok (.iconst 1, 1) := by decide +kernel
theorem dX11_mix_35 : decode cX11_mix 35 = .ok (.goto 4, 3) := by decide +kernel
theorem dX11_mix_38 : decode cX11_mix 38 = .ok (.iconst 0, 1) := by decide +kernel
theorem dX11_mix_39 : decode cX11_mix 39 = .ok (.iconst 1, 1) := by decide +kernel
theorem dX11_mix_40 : decode cX11_mix 40 = .ok (.invokevirtual 40, 3) := by decide +kernel
theorem dX11_mix_43 : decode cX11_mix 43 = .ok (.ifCond .eq 5, 3) := by decide +kernel
theorem dX11_mix_46 : decode cX11_mix 46 = .ok (.iconst 0, 1) := by decide +kernel
theorem dX11_mix_47 : decode cX11_mix 47 = .ok (.ireturn, 1) := by decide +kernel
theorem dX11_mix_48 : decode cX11_mix 48 = .ok (.new 121, 3) := by decide +kernel
theorem dX11_mix_51 : decode cX11_mix 51 = .ok (.dup, 1) := by decide +kernel
theorem dX11_mix_52 : decode cX11_mix 52 = .ok (.invokespecial 123, 3) := by decide +kernel
theorem dX11_mix_55 : decode cX11_mix 55 = .ok (.astore 5, 2) := by decide +kernel
theorem dX11_mix_57 : decode cX11_mix 57 = .ok (.iconst 0, 1) := by decide +kernel
theorem dX11_mix_58 : decode cX11_mix 58 = .ok (.istore 6, 2) := by decide +kernel
theorem dX11_mix_60 : decode cX11_mix 60 = .ok (.iload 6, 2) := by decide +kernel
theorem dX11_mix_62 : decode cX11_mix 62 = .ok (.iconst 2, 1) := by decide +kernel
theorem dX11_mix_63 : decode cX11_mix 63 = .ok (.if_icmp .ge 181, 3) := by decide +kernel
theorem dX11_mix_66 : decode cX11_mix 66 = .ok (.iload 6, 2) := by decide +kernel
theorem dX11_mix_68 : decode cX11_mix 68 = .ok (.ifCond .ne 7, 3) := by decide +kernel
theorem dX11_mix_71 : decode cX11_mix 71 = .ok (.iload_n 2, 1) := by decide +kernel
theorem dX11_mix_72 : decode cX11_mix 72 = .ok (.goto 5, 3) := by decide +kernel
theorem dX11_mix_75 : decode cX11_mix 75 = .ok (.iload 4, 2) := by decide +kernel
theorem dX11_mix_77 : decode cX11_mix 77 = .ok (.istore 7, 2) := by decide +kernel
theorem dX11_mix_79 : decode cX11_mix 79 = .ok (.aload_n 0, 1) := by decide +kernel
theorem dX11_mix_80 : decode cX11_mix 80 = .ok (.getfield 16, 3) := by decide +kernel
theorem dX11_mix_83 : decode cX11_mix 83 = .ok (.iload 6, 2) := by decide +kernel
theorem dX11_mix_85 : decode cX11_mix 85 = .ok (.ifCond .ne 7, 3) := by decide +kernel
theorem dX11_mix_88 : decode cX11_mix 88 = .ok (.iload_n 1, 1) := by decide +kernel
theorem dX11_mix_89 : decode cX11_mix 89 = .ok (.goto 4, 3) := by decide +kernel
theorem dX11_mix_92 : decode cX11_mix 92 = .ok (.iload_n 3, 1) := by decide +kernel
theorem dX11_mix_93 : decode cX11_mix 93 = .ok (.invokeinterface 54 2, 5) := by decide +kernel
theorem dX11_mix_98 : decode cX11_mix 98 = .ok (.checkcast 121, 3) := by decide +kernel
theorem dX11_mix_101 : decode cX11_mix 101 = .ok (.getfield 124, 3) := by decide +kernel
theorem dX11_mix_104 : decode cX11_mix 104 = .ok (.invokeinterface 76 1, 5) := by decide +kernel
theorem dX11_mix_109 : decode cX11_mix 109 = .ok (.astore 8, 2) := by decide +kernel
theorem dX11_mix_111 : decode cX11_mix 111 = .ok (.aload 8, 2) := by decide +kernel
theorem dX11_mix_113 : decode cX11_mix 113 = .ok (.invokeinterface 80 1, 5) := by decide +kernel
theorem dX11_mix_118 : decode cX11_mix 118 = .ok (.ifCond .eq 120, 3) := by decide +kernel
theorem dX11_mix_121 : decode cX11_mix 121 = .ok (.aload 8, 2) := by decide +kernel
theorem dX11_mix_123 : decode cX11_mix 123 = .ok (.invokeinterface 86 1, 5) := by decide +kernel
theorem dX11_mix_128 : decode cX11_mix 128 = .ok (.checkcast 127, 3) := by decide +kernel
theorem dX11_mix_131 : decode cX11_mix 131 = .ok (.astore 9, 2) := by decide +kernel
theorem dX11_mix_133 : decode cX11_mix 133 = .ok (.iconst 0, 1) := by decide +kernel
theorem dX11_mix_134 : decode cX11_mix 134 = .ok (.istore 10, 2) := by decide +kernel
theorem dX11_mix_136 : decode cX11_mix 136 = .ok (.iload 10, 2) := by decide +kernel
theorem dX11_mix_138 : decode cX11_mix 138 = .ok (.aload_n 0, 1) := by decide +kernel
theorem dX11_mix_139 : decode cX11_mix 139 = .ok (.getfield 10, 3) := by decide +kernel
theorem dX11_mix_142 : decode cX11_mix 142 = .ok (.invokeinterface 30 1, 5) := by decide +kernel
theorem dX11_mix_147 : decode cX11_mix 147 = .ok (.if_icmp .ge 88, 3) := by decide +kernel
theorem dX11_mix_150 : decode cX11_mix 150 = .ok (.aload_n 0, 1) := by decide +kernel
theorem dX11_mix_151 : decode cX11_mix 151 = .ok (.iload 10, 2) := by decide +kernel
theorem dX11_mix_153 : decode cX11_mix 153 = .ok (.aload 9, 2) := by decide +kernel
theorem dX11_mix_155 : decode cX11_mix 155 = .ok (.iconst 1, 1) := by decide +kernel
theorem dX11_mix_156 : decode cX11_mix 156 = .ok (.iaload, 1) := by decide +kernel
theorem dX11_mix_157 : decode cX11_mix 157 = .ok (.invokevirtual 69, 3) := by decide +kernel
theorem dX11_mix_160 : decode cX11_mix 160 = .ok (.ifCond .eq 35, 3) := by decide +kernel
theorem dX11_mix_163 : decode cX11_mix 163 = .ok (.aload_n 0, 1) := by decide +kernel
theorem dX11_mix_164 : decode cX11_mix 164 = .ok (.iload 10, 2) := by decide +kernel
theorem dX11_mix_166 : decode cX11_mix 166 = .ok (.iload 7, 2) := by decide +kernel
theorem dX11_mix_168 : decode cX11_mix 168 = .ok (.invokevirtual 69, 3) := by decide +kernel
theorem dX11_mix_171 : decode cX11_mix 171 = .ok (.ifCond .eq 24, 3) := by decide +kernel
theorem dX11_mix_174 : decode cX11_mix 174 = .ok (.aload 5, 2) := by decide +kernel
theorem dX11_mix_176 : decode cX11_mix 176 = .ok (.getfield 124, 3) := by decide +kernel
theorem dX11_mix_179 : decode cX11_mix 179 = .ok (.aload 9, 2) := by decide +kernel
theorem dX11_mix_181 : decode cX11_mix 181 = .ok (.iconst 0, 1) := by decide +kernel
theorem dX11_mix_182 : decode cX11_mix 182 = .ok (.iaload, 1) := by decide +kernel
theorem dX11_mix_183 : decode cX11_mix 183 = .ok (.iload 10, 2) := by decide +kernel
theorem dX11_mix_185 : decode cX11_mix 185 = .ok (.invokestatic 137, 3) := by decide +kernel
theorem dX11_mix_188 : decode cX11_mix 188 = .ok (.ifCond .ne 7, 3) := by decide +kernel
theorem dX11_mix_191 : decode cX11_mix 191 = .ok (.iconst 1, 1) := by decide +kernel
theorem dX11_mix_192 : decode cX11_mix 192 = .ok (.goto 4, 3) := by decide +kernel
theorem dX11_mix_195 : decode cX11_mix 195 = .ok (.iconst 0, 1) := by decide +kernel
theorem dX11_mix_196 : decode cX11_mix 196 = .ok (.istore 11, 2) := by decide +kernel
theorem dX11_mix_198 : decode cX11_mix 198 = .ok (.iload 11, 2) := by decide +kernel
theorem dX11_mix_200 : decode cX11_mix 200 = .ok (.ifCond .eq 29, 3) := by decide +kernel
theorem dX11_mix_203 : decode cX11_mix 203 = .ok (.aload 5, 2) := by decide +kernel
theorem dX11_mix_205 : decode cX11_mix 205 = .ok (.getfield 124, 3) := by decide +kernel
theorem dX11_mix_208 : decode cX11_mix 208 = .ok (.iconst 2, 1) := by decide +kernel
theorem dX11_mix_209 : decode cX11_mix 209 = .ok (.newarray .int, 2) := by decide +kernel
theorem dX11_mix_211 : decode cX11_mix 211 = .ok (.dup, 1) := by decide +kernel
theorem dX11_mix_212 : decode cX11_mix 212 = .ok (.iconst 0, 1) := by decide +kernel
theorem dX11_mix_213 : decode cX11_mix 213 = .ok (.aload 9, 2) := by decide +kernel
theorem dX11_mix_215 : decode cX11_mix 215 = .ok (.iconst 0, 1) := by decide +kernel
theorem dX11_mix_216 : decode cX11_mix 216 = .ok (.iaload, 1) := by decide +kernel
theorem dX11_mix_217 : decode cX11_mix 217 = .ok (.iastore, 1) := by decide +kernel
theorem dX11_mix_218 : decode cX11_mix 218 = .ok (.dup, 1) := by decide +kernel
theorem dX11_mix_219 : decode cX11_mix 219 = .ok (.iconst 1, 1) := by decide +kernel
theorem dX11_mix_220 : decode cX11_mix 220 = .ok (.iload 10, 2) := by decide +kernel
theorem dX11_mix_222 : decode cX11_mix 222 = .ok (.iastore, 1) := by decide +kernel
theorem dX11_mix_223 : decode cX11_mix 223 = .ok (.invokeinterface 50 2, 5) := by decide +kernel
theorem dX11_mix_228 : decode cX11_mix 228 = .ok (.pop, 1) := by decide +kernel
theorem dX11_mix_229 : decode cX11_mix 229 = .ok (.iinc 10 1, 3) := by decide +kernel
theorem dX11_mix_232 : decode cX11_mix 232 = .ok (.goto (-96), 3) := by decide +kernel
theorem dX11_mix_235 : decode cX11_mix 235 = .ok (.goto (-124), 3) := by decide +kernel
theorem dX11_mix_238 : decode cX11_mix 238 = .ok (.iinc 6 1, 3) := by decide +kernel
theorem dX11_mix_241 : decode cX11_mix 241 = .ok (.goto (-181), 3) := by decide +kernel
theorem dX11_mix_244 : decode cX11_mix 244 = .ok (.aload_n 0, 1) := by decide +kernel
theorem dX11_mix_245 : decode cX11_mix 245 = .ok (.aload_n 0, 1) := by decide +kernel
theorem dX11_mix_246 : decode cX11_mix 246 = .ok (.iload_n 2, 1) := by decide +kernel
theorem dX11_mix_247 : decode cX11_mix 247 = .ok (.iload 4, 2) := by decide +kernel
theorem dX11_mix_249 : decode cX11_mix 249 = .ok (.invokevirtual 94, 3) := by decide +kernel
theorem dX11_mix_252 : decode cX11_mix 252 = .ok (.ifCond .ne 21, 3) := by decide +kernel
theorem dX11_mix_255 : decode cX11_mix 255 = .ok (.aload 5, 2) := by decide +kernel
theorem dX11_mix_257 : decode cX11_mix 257 = .ok (.getfield 124, 3) := by decide +kernel
theorem dX11_mix_260 : decode cX11_mix 260 = .ok (.invokeinterface 30 1, 5) := by decide +kernel
theorem dX11_mix_265 : decode cX11_mix 265 = .ok (.iconst 4, 1) := by decide +kernel
theorem dX11_mix_266 : decode cX11_mix 266 = .ok (.if_icmp .gt 7, 3) := by decide +kernel
theorem dX11_mix_269 : decode cX11_mix 269 = .ok (.iconst 1, 1) := by decide +kernel
theorem dX11_mix_270 : decode cX11_mix 270 = .ok (.goto 4, 3) := by decide +kernel
theorem dX11_mix_273 : decode cX11_mix 273 = .ok (.iconst 0, 1) := by decide +kernel
theorem dX11_mix_274 : decode cX11_mix 274 = .ok (.iconst 2, 1) := by decide +kernel
theorem dX11_mix_275 : decode cX11_mix 275 = .ok (.invokevirtual 40, 3) := by decide +kernel
theorem dX11_mix_278 : decode cX11_mix 278 = .ok (.ifCond .ne 30, 3) := by decide +kernel
theorem dX11_mix_281 : decode cX11_mix 281 = .ok (.aload_n 0, 1) := by decide +kernel
theorem dX11_mix_282 : decode cX11_mix 282 = .ok (.aload_n 0, 1) := by decide +kernel
theorem dX11_mix_283 : decode cX11_mix 283 = .ok (.getfield 16, 3) := by decide +kernel
theorem dX11_mix_286 : decode cX11_mix 286 = .ok (.invokeinterface 30 1, 5) := by decide +kernel
theorem dX11_mix_291 : decode cX11_mix 291 = .ok (.bipush 12, 2) := by decide +kernel
theorem dX11_mix_293 : decode cX11_mix 293 = .ok (.if_icmp .ge 7, 3) := by decide +kernel
theorem dX11_mix_296 : decode cX11_mix 296 = .ok (.iconst 1, 1) := by decide +kernel
theorem dX11_mix_297 : decode cX11_mix 297 = .ok (.goto 4, 3) := by decide +kernel
theorem dX11_mix_300 : decode cX11_mix 300 = .ok (.iconst 0, 1) := by decide +kernel
theorem dX11_mix_301 : decode cX11_mix 301 = .ok (.iconst 3, 1) := by decide +kernel
theorem dX11_mix_302 : decode cX11_mix 302 = .ok (.invokevirtual 40, 3) := by decide +kernel
theorem dX11_mix_305 : decode cX11_mix 305 = .ok (.ifCond .eq 5, 3) := by decide +kernel
theorem dX11_mix_308 : decode cX11_mix 308 = .ok (.iconst 0, 1) := by decide +kernel
theorem dX11_mix_309 : decode cX11_mix 309 = .ok (.ireturn, 1) := by decide +kernel
theorem dX11_mix_310 : decode cX11_mix 310 = .ok (.aload_n 0, 1) := by decide +kernel
theorem dX11_mix_311 : decode cX11_mix 311 = .ok (.getfield 16, 3) := by decide +kernel
theorem dX11_mix_314 : decode cX11_mix 314 = .ok (.aload 5, 2) := by decide +kernel
theorem dX11_mix_316 : decode cX11_mix 316 = .ok (.invokeinterface 50 2, 5) := by decide +kernel
theorem dX11_mix_321 : decode cX11_mix 321 = .ok (.pop, 1) := by decide +kernel
theorem dX11_mix_322 : decode cX11_mix 322 = .ok (.aload_n 0, 1) := by decide +kernel
theorem dX11_mix_323 : decode cX11_mix 323 = .ok (.getfield 16, 3) := by decide +kernel
theorem dX11_mix_326 : decode cX11_mix 326 = .ok (.invokeinterface 30 1, 5) := by decide +kernel
theorem dX11_mix_331 : decode cX11_mix 331 = .ok (.iconst 1, 1) := by decide +kernel
theorem dX11_mix_332 : decode cX11_mix 332 = .ok (.isub, 1) := by decide +kernel
theorem dX11_mix_333 : decode cX11_mix 333 = .ok (.ireturn, 1) := by decide +kernel
theorem dX11_isTerm_0 : decode cX11_isTerm 0 = .ok (.aload_n 0, 1) := by decide +kernel
theorem dX11_isTerm_1 : decode cX11_isTerm 1 = .ok (.iload_n 1, 1) := by decide +kernel
theorem dX11_isTerm_2 : decode cX11_isTerm 2 = .ok (.invokevirtual 131, 3) := by decide +kernel
theorem dX11_isTerm_5 : decode cX11_isTerm 5 = .ok (.ifCond .ne 14, 3) := by decide +kernel
theorem dX11_isTerm_8 : decode cX11_isTerm 8 = .ok (.iload_n 1, 1) := by decide +kernel
theorem dX11_isTerm_9 : decode cX11_isTerm 9 = .ok (.bipush 100, 2) := by decide +kernel
theorem dX11_isTerm_11 : decode cX11_isTerm 11 = .ok (.bipush 103, 2) := by decide +kernel
theorem dX11_isTerm_13 : decode cX11_isTerm 13 = .ok (.invokestatic 36, 3) := by decide +kernel
theorem dX11_isTerm_16 : decode cX11_isTerm 16 = .ok (.ifCond .eq 7, 3) := by decide +kernel
theorem dX11_isTerm_19 : decode cX11_isTerm 19 = .ok (.iconst 1, 1) := by decide +kernel
theorem dX11_isTerm_20 : decode cX11_isTerm 20 = .ok (.goto 4, 3) := by decide +kernel
theorem dX11_isTerm_23 : decode cX11_isTerm 23 = .ok (.iconst 0, 1) := by decide +kernel
theorem dX11_isTerm_24 : decode cX11_isTerm 24 = .ok (.ireturn, 1) := by decide +kernel
theorem dX11_keep_0 : decode cX11_keep 0 = .ok (.aload_n 1, 1) := by decide +kernel
theorem dX11_keep_1 : decode cX11_keep 1 = .ok (.iload_n 2, 1) := by decide +kernel
theorem dX11_keep_2 : decode cX11_keep 2 = .ok (.putfield 160, 3) := by decide +kernel
theorem dX11_keep_5 : decode cX11_keep 5 = .ok (.aload_n 0, 1) := by decide +kernel
theorem dX11_keep_6 : decode cX11_keep 6 = .ok (.getfield 19, 3) := by decide +kernel
theorem dX11_keep_9 : decode cX11_keep 9 = .ok (.aload_n 1, 1) := by decide +kernel
theorem dX11_keep_10 : decode cX11_keep 10 = .ok (.invokeinterface 50 2, 5) := by decide +kernel
theorem dX11_keep_15 : decode cX11_keep 15 = .ok (.pop, 1) := by decide +kernel
theorem dX11_keep_16 : decode cX11_keep 16 = .ok (.aload_n 0, 1) := by decide +kernel
theorem dX11_keep_17 : decode cX11_keep 17 = .ok (.getfield 19, 3) := by decide +kernel
theorem dX11_keep_20 : decode cX11_keep 20 = .ok (.invokeinterface 30 1, 5) := by decide +kernel
theorem dX11_keep_25 : decode cX11_keep 25 = .ok (.iconst 1, 1) := by decide +kernel
theorem dX11_keep_26 : decode cX11_keep 26 = .ok (.isub, 1) := by decide +kernel
theorem dX11_keep_27 : decode cX11_keep 27 = .ok (.ireturn, 1) := by decide +kernel
theorem dX11_atom_0 : decode cX11_atom 0 = .ok (.aload_n 0, 1) := by decide +kernel
theorem dX11_atom_1 : decode cX11_atom 1 = .ok (.iload_n 1, 1) := by decide +kernel
theorem dX11_atom_2 : decode cX11_atom 2 = .ok (.bipush 101, 2) := by decide +kernel
theorem dX11_atom_4 : decode cX11_atom 4 = .ok (.if_icmp .eq 9, 3) := by decide +kernel
theorem dX11_atom_7 : decode cX11_atom 7 = .ok (.iload_n 1, 1) := by decide +kernel
theorem dX11_atom_8 : decode cX11_atom 8 = .ok (.bipush 61, 2) := by decide +kernel
theorem dX11_atom_10 : decode cX11_atom 10 = .ok (.if_icmp .ne 23, 3) := by decide +kernel
theorem dX11_atom_13 : decode cX11_atom 13 = .ok (.aload_n 0, 1) := by decide +kernel
theorem dX11_atom_14 : decode cX11_atom 14 = .ok (.iload_n 2, 1) := by decide +kernel
theorem dX11_atom_15 : decode cX11_atom 15 = .ok (.invokevirtual 165, 3) := by decide +kernel
theorem dX11_atom_18 : decode cX11_atom 18 = .ok (.ifCond .eq 15, 3) := by decide +kernel
theorem dX11_atom_21 : decode cX11_atom 21 = .ok (.aload_n 0, 1) := by decide +kernel
theorem dX11_atom_22 : decode cX11_atom 22 = .ok (.iload_n 3, 1) := by decide +kernel
theorem dX11_atom_23 : decode cX11_atom 23 = .ok (.invokevirtual 165, 3) := by decide +kernel
theorem dX11_atom_26 : decode cX11_atom 26 = .ok (.ifCond .eq 7, 3) := by decide +kernel
theorem dX11_atom_29 : decode cX11_atom 29 = .ok (.iconst 1, 1) := by decide +kernel
theorem dX11_atom_30 : decode cX11_atom 30 = .ok (.goto 4, 3) := by decide +kernel
theorem dX11_atom_33 : decode cX11_atom 33 = .ok (.iconst 0, 1) := by decide +kernel
theorem dX11_atom_34 : decode cX11_atom 34 = .ok (.iconst 1, 1) := by decide +kernel
theorem dX11_atom_35 : decode cX11_atom 35 = .ok (.invokevirtual 40, 3) := by decide +kernel
theorem dX11_atom_38 : decode cX11_atom 38 = .ok (.ifCond .ne 30, 3) := by decide +kernel
theorem dX11_atom_41 : decode cX11_atom 41 = .ok (.aload_n 0, 1) := by decide +kernel
theorem dX11_atom_42 : decode cX11_atom 42 = .ok (.aload_n 0, 1) := by decide +kernel
theorem dX11_atom_43 : decode cX11_atom 43 = .ok (.getfield 19, 3) := by decide +kernel
theorem dX11_atom_46 : decode cX11_atom 46 = .ok (.invokeinterface 30 1, 5) := by decide +kernel
theorem dX11_atom_51 : decode cX11_atom 51 = .ok (.bipush 16, 2) := by decide +kernel
theorem dX11_atom_53 : decode cX11_atom 53 = .ok (.if_icmp .ge 7, 3) := by decide +kernel
theorem dX11_atom_56 : decode cX11_atom 56 = .ok (.iconst 1, 1) := by decide +kernel
theorem dX11_atom_57 : decode cX11_atom 57 = .ok (.goto 4, 3) := by decide +kernel
theorem dX11_atom_60 : decode cX11_atom 60 = .ok (.iconst 0, 1) := by decide +kernel
theorem dX11_atom_61 : decode cX11_atom 61 = .ok (.iconst 2, 1) := by decide +kernel
theorem dX11_atom_62 : decode cX11_atom 62 = .ok (.invokevirtual 40, 3) := by decide +kernel
theorem dX11_atom_65 : decode cX11_atom 65 = .ok (.ifCond .eq 5, 3) := by decide +kernel
theorem dX11_atom_68 : decode cX11_atom 68 = .ok (.iconst 0, 1) := by decide +kernel
theorem dX11_atom_69 : decode cX11_atom 69 = .ok (.ireturn, 1) := by decide +kernel
theorem dX11_atom_70 : decode cX11_atom 70 = .ok (.aload_n 0, 1) := by decide +kernel
theorem dX11_atom_71 : decode cX11_atom 71 = .ok (.new 161, 3) := by decide +kernel
theorem dX11_atom_74 : decode cX11_atom 74 = .ok (.dup, 1) := by decide +kernel
theorem dX11_atom_75 : decode cX11_atom 75 = .ok (.iload_n 1, 1) := by decide +kernel
theorem dX11_atom_76 : decode cX11_atom 76 = .ok (.iload_n 2, 1) := by decide +kernel
theorem dX11_atom_77 : decode cX11_atom 77 = .ok (.iload_n 3, 1) := by decide +kernel
theorem dX11_atom_78 : decode cX11_atom 78 = .ok (.iconst 0, 1) := by decide +kernel
theorem dX11_atom_79 : decode cX11_atom 79 = .ok (.iconst 0, 1) := by decide +kernel
theorem dX11_atom_80 : decode cX11_atom 80 = .ok (.invokespecial 168, 3) := by decide +kernel
theorem dX11_atom_83 : decode cX11_atom 83 = .ok (.iconst 1, 1) := by decide +kernel
theorem dX11_atom_84 : decode cX11_atom 84 = .ok (.invokevirtual 171, 3) := by decide +kernel
theorem dX11_atom_87 : decode cX11_atom 87 = .ok (.ireturn, 1) := by decide +kernel
theorem dX11_deep_0 : decode cX11_deep 0 = .ok (.aload_n 0, 1) := by decide +kernel
theorem dX11_deep_1 : decode cX11_deep 1 = .ok (.getfield 19, 3) := by decide +kernel
theorem dX11_deep_4 : decode cX11_deep 4 = .ok (.iload_n 1, 1) := by decide +kernel
theorem dX11_deep_5 : decode cX11_deep 5 = .ok (.invokeinterface 54 2, 5) := by decide +kernel
theorem dX11_deep_10 : decode cX11_deep 10 = .ok (.checkcast 161, 3) := by decide +kernel
theorem dX11_deep_13 : decode cX11_deep 13 = .ok (.getfield 160, 3) := by decide +kernel
theorem dX11_deep_16 : decode cX11_deep 16 = .ok (.iconst 1, 1) := by decide +kernel
theorem dX11_deep_17 : decode cX11_deep 17 = .ok (.iadd, 1) := by decide +kernel
theorem dX11_deep_18 : decode cX11_deep 18 = .ok (.ireturn, 1) := by decide +kernel
theorem dX11_both_0 : decode cX11_both 0 = .ok (.aload_n 0, 1) := by decide +kernel
theorem dX11_both_1 : decode cX11_both 1 = .ok (.aload_n 0, 1) := by decide +kernel
theorem dX11_both_2 : decode cX11_both 2 = .ok (.iload_n 2, 1) := by decide +kernel
theorem dX11_both_3 : decode cX11_both 3 = .ok (.invokevirtual 175, 3) := by decide +kernel
theorem dX11_both_6 : decode cX11_both 6 = .ok (.ifCond .eq 15, 3) := by decide +kernel
theorem dX11_both_9 : decode cX11_both 9 = .ok (.aload_n 0, 1) := by decide +kernel
theorem dX11_both_10 : decode cX11_both 10 = .ok (.iload_n 3, 1) := by decide +kernel
theorem dX11_both_11 : decode cX11_both 11 = .ok (.invokevirtual 175, 3) := by decide +kernel
theorem dX11_both_14 : decode cX11_both 14 = .ok (.ifCond .eq 7, 3) := by decide +kernel
theorem dX11_both_17 : decode cX11_both 17 = .ok (.iconst 1, 1) := by decide +kernel
theorem dX11_both_18 : decode cX11_both 18 = .ok (.goto 4, 3) := by decide +kernel
theorem dX11_both_21 : decode cX11_both 21 = .ok (.iconst 0, 1) := by decide +kernel
theorem dX11_both_22 : decode cX11_both 22 = .ok (.iconst 1, 1) := by decide +kernel
theorem dX11_both_23 : decode cX11_both 23 = .ok (.invokevirtual 40, 3) := by decide +kernel
theorem dX11_both_26 : decode cX11_both 26 = .ok (.ifCond .ne 28, 3) := by decide +kernel
theorem dX11_both_29 : decode cX11_both 29 = .ok (.aload_n 0, 1) := by decide +kernel
theorem dX11_both_30 : decode cX11_both 30 = .ok (.iload_n 1, 1) := by decide +kernel
theorem dX11_both_31 : decode cX11_both 31 = .ok (.bipush 97, 2) := by decide +kernel
theorem dX11_both_33 : decode cX11_both 33 = .ok (.if_icmp .eq 9, 3) := by decide +kernel
theorem dX11_both_36 : decode cX11_both 36 = .ok (.iload_n 1, 1) := by decide +kernel
theorem dX11_both_37 : decode cX11_both 37 = .ok (.bipush 111, 2) := by decide +kernel
theorem dX11_both_39 : decode cX11_both 39 = .ok (.if_icmp .ne 7, 3) := by decide +kernel
theorem dX11_both_42 : decode cX11_both 42 = .ok (.iconst 1, 1) := by decide +kernel
theorem dX11_both_43 : decode cX11_both 43 = .ok (.goto 4, 3) := by decide +kernel
theorem dX11_both_46 : decode cX11_both 46 = .ok (.iconst 0, 1) := by decide +kernel
theorem dX11_both_47 : decode cX11_both 47 = .ok (.iconst 2, 1) := by decide +kernel
theorem dX11_both_48 : decode cX11_both 48 = .ok (.invokevirtual 40, 3) := by decide +kernel
theorem dX11_both_51 : decode cX11_both 51 = .ok (.ifCond .eq 5, 3) := by decide +kernel
theorem dX11_both_54 : decode cX11_both 54 = .ok (.iconst 0, 1) := by decide +kernel
theorem dX11_both_55 : decode cX11_both 55 = .ok (.ireturn, 1) := by decide +kernel
theorem dX11_both_56 : decode cX11_both 56 = .ok (.aload_n 0, 1) := by decide +kernel
theorem dX11_both_57 : decode cX11_both 57 = .ok (.iload_n 2, 1) := by decide +kernel
theorem dX11_both_58 : decode cX11_both 58 = .ok (.invokevirtual 178, 3) := by decide +kernel
theorem dX11_both_61 : decode cX11_both 61 = .ok (.aload_n 0, 1) := by decide +kernel
theorem dX11_both_62 : decode cX11_both 62 = .ok (.iload_n 3, 1) := by decide +kernel
theorem dX11_both_63 : decode cX11_both 63 = .ok (.invokevirtual 178, 3) := by decide +kernel
theorem dX11_both_66 : decode cX11_both 66 = .ok (.invokestatic 106, 3) := by decide +kernel
theorem dX11_both_69 : decode cX11_both 69 = .ok (.istore 4, 2) := by decide +kernel
theorem dX11_both_71 : decode cX11_both 71 = .ok (.aload_n 0, 1) := by decide +kernel
theorem dX11_both_72 : decode cX11_both 72 = .ok (.iload 4, 2) := by decide +kernel
theorem dX11_both_74 : decode cX11_both 74 = .ok (.iconst 5, 1) := by decide +kernel
theorem dX11_both_75 : decode cX11_both 75 = .ok (.if_icmp .gt 7, 3) := by decide +kernel
theorem dX11_both_78 : decode cX11_both 78 = .ok (.iconst 1, 1) := by decide +kernel
theorem dX11_both_79 : decode cX11_both 79 = .ok (.goto 4, 3) := by decide +kernel
theorem dX11_both_82 : decode cX11_both 82 = .ok (.iconst 0, 1) := by decide +kernel
theorem dX11_both_83 : decode cX11_both 83 = .ok (.iconst 3, 1) := by decide +kernel
theorem dX11_both_84 : decode cX11_both 84 = .ok (.invokevirtual 40, 3) := by decide +kernel
theorem dX11_both_87 : decode cX11_both 87 = .ok (.ifCond .ne 30, 3) := by decide +kernel
theorem dX11_both_90 : decode cX11_both 90 = .ok (.aload_n 0, 1) := by decide +kernel
theorem dX11_both_91 : decode cX11_both 91 = .ok (.aload_n 0, 1) := by decide +kernel
theorem dX11_both_92 : decode cX11_both 92 = .ok (.getfield 19, 3) := by decide +kernel
theorem dX11_both_95 : decode cX11_both 95 = .ok (.invokeinterface 30 1, 5) := by decide +kernel
theorem dX11_both_100 : decode cX11_both 100 = .ok (.bipush 16, 2) := by decide +kernel
theorem dX11_both_102 : decode cX11_both 102 = .ok (.if_icmp .ge 7, 3) := by decide +kernel
theorem dX11_both_105 : decode cX11_both 105 = .ok (.iconst 1, 1) := by decide +kernel
theorem dX11_both_106 : decode cX11_both 106 = .ok (.goto 4, 3) := by decide +kernel
theorem dX11_both_109 : decode cX11_both 109 = .ok (.iconst 0, 1) := by decide +kernel
theorem dX11_both_110 : decode cX11_both 110 = .ok (.iconst 4, 1) := by decide +kernel
theorem dX11_both_111 : decode cX11_both 111 = .ok (.invokevirtual 40, 3) := by decide +kernel
theorem dX11_both_114 : decode cX11_both 114 = .ok (.ifCond .eq 5, 3) := by decide +kernel
theorem dX11_both_117 : decode cX11_both 117 = .ok (.iconst 0, 1) := by decide +kernel
theorem dX11_both_118 : decode cX11_both 118 = .ok (.ireturn, 1) := by decide +kernel
theorem dX11_both_119 : decode cX11_both 119 = .ok (.aload_n 0, 1) := by decide +kernel
theorem dX11_both_120 : decode cX11_both 120 = .ok (.new 161, 3) := by decide +kernel
theorem dX11_both_123 : decode cX11_both 123 = .ok (.dup, 1) := by decide +kernel
theorem dX11_both_124 : decode cX11_both 124 = .ok (.iload_n 1, 1) := by decide +kernel
theorem dX11_both_125 : decode cX11_both 125 = .ok (.iload_n 2, 1) := by decide +kernel
theorem dX11_both_126 : decode cX11_both 126 = .ok (.iload_n 3, 1) := by decide +kernel
theorem dX11_both_127 : decode cX11_both 127 = .ok (.iconst 0, 1) := by decide +kernel
theorem dX11_both_128 : decode cX11_both 128 = .ok (.iconst 0, 1) := by decide +kernel
theorem dX11_both_129 : decode cX11_both 129 = .ok (.invokespecial 168, 3) := by decide +kernel
theorem dX11_both_132 : decode cX11_both 132 = .ok (.iload 4, 2) := by decide +kernel
theorem dX11_both_134 : decode cX11_both 134 = .ok (.invokevirtual 171, 3) := by decide +kernel
theorem dX11_both_137 : decode cX11_both 137 = .ok (.ireturn, 1) := by decide +kernel
theorem dX11_not_0 : decode cX11_not 0 = .ok (.aload_n 0, 1) := by decide +kernel
theorem dX11_not_1 : decode cX11_not 1 = .ok (.aload_n 0, 1) := by decide +kernel
theorem dX11_not_2 : decode cX11_not 2 = .ok (.iload_n 1, 1) := by decide +kernel
theorem dX11_not_3 : decode cX11_not 3 = .ok (.invokevirtual 175, 3) := by decide +kernel
theorem dX11_not_6 : decode cX11_not 6 = .ok (.iconst 1, 1) := by decide +kernel
theorem dX11_not_7 : decode cX11_not 7 = .ok (.invokevirtual 40, 3) := by decide +kernel
theorem dX11_not_10 : decode cX11_not 10 = .ok (.ifCond .ne 52, 3) := by decide +kernel
theorem dX11_not_13 : decode cX11_not 13 = .ok (.aload_n 0, 1) := by decide +kernel
theorem dX11_not_14 : decode cX11_not 14 = .ok (.aload_n 0, 1) := by decide +kernel
theorem dX11_not_15 : decode cX11_not 15 = .ok (.iload_n 1, 1) := by decide +kernel
theorem dX11_not_16 : decode cX11_not 16 = .ok (.invokevirtual 178, 3) := by decide +kernel
theorem dX11_not_19 : decode cX11_not 19 = .ok (.iconst 5, 1) := by decide +kernel
theorem dX11_not_20 : decode cX11_not 20 = .ok (.if_icmp .gt 7, 3) := by decide +kernel
theorem dX11_not_23 : decode cX11_not 23 = .ok (.iconst 1, 1) := by decide +kernel
theorem dX11_not_24 : decode cX11_not 24 = .ok (.goto 4, 3) := by decide +kernel
theorem dX11_not_27 : decode cX11_not 27 = .ok (.iconst 0, 1) := by decide +kernel
theorem dX11_not_28 : decode cX11_not 28 = .ok (.iconst 2, 1) := by decide +kernel
theorem dX11_not_29 : decode cX11_not 29 = .ok (.invokevirtual 40, 3) := by decide +kernel
theorem dX11_not_32 : decode cX11_not 32 = .ok (.ifCond .ne 30, 3) := by decide +kernel
theorem dX11_not_35 : decode cX11_not 35 = .ok (.aload_n 0, 1) := by decide +kernel
theorem dX11_not_36 : decode cX11_not 36 = .ok (.aload_n 0, 1) := by decide +kernel
theorem dX11_not_37 : decode cX11_not 37 = .ok (.getfield 19, 3) := by decide +kernel
theorem dX11_not_40 : decode cX11_not 40 = .ok (.invokeinterface 30 1, 5) := by decide +kernel
theorem dX11_not_45 : decode cX11_not 45 = .ok (.bipush 16, 2) := by decide +kernel
theorem dX11_not_47 : decode cX11_not 47 = .ok (.if_icmp .ge 7, 3) := by decide +kernel
theorem dX11_not_50 : decode cX11_not 50 = .ok (.iconst 1, 1) := by decide +kernel
theorem dX11_not_51 : decode cX11_not 51 = .ok (.goto 4, 3) := by decide +kernel
theorem dX11_not_54 : decode cX11_not 54 = .ok (.iconst 0, 1) := by decide +kernel
theorem dX11_not_55 : decode cX11_not 55 = .ok (.iconst 3, 1) := by decide +kernel
theorem dX11_not_56 : decode cX11_not 56 = .ok (.invokevirtual 40, 3) := by decide +kernel
theorem dX11_not_59 : decode cX11_not 59 = .ok (.ifCond .eq 5, 3) := by decide +kernel
theorem dX11_not_62 : decode cX11_not 62 = .ok (.iconst 0, 1) := by decide +kernel
theorem dX11_not_63 : decode cX11_not 63 = .ok (.ireturn, 1) := by decide +kernel
theorem dX11_not_64 : decode cX11_not 64 = .ok (.aload_n 0, 1) := by decide +kernel
theorem dX11_not_65 : decode cX11_not 65 = .ok (.new 161, 3) := by decide +kernel
theorem dX11_not_68 : decode cX11_not 68 = .ok (.dup, 1) := by decide +kernel
theorem dX11_not_69 : decode cX11_not 69 = .ok (.bipush 110, 2) := by decide +kernel
theorem dX11_not_71 : decode cX11_not 71 = .ok (.iload_n 1, 1) := by decide +kernel
theorem dX11_not_72 : decode cX11_not 72 = .ok (.iconst 0, 1) := by decide +kernel
theorem dX11_not_73 : decode cX11_not 73 = .ok (.iconst 0, 1) := by decide +kernel
theorem dX11_not_74 : decode cX11_not 74 = .ok (.iconst 0, 1) := by decide +kernel
theorem dX11_not_75 : decode cX11_not 75 = .ok (.invokespecial 168, 3) := by decide +kernel
theorem dX11_not_78 : decode cX11_not 78 = .ok (.aload_n 0, 1) := by decide +kernel
theorem dX11_not_79 : decode cX11_not 79 = .ok (.iload_n 1, 1) := by decide +kernel
theorem dX11_not_80 : decode cX11_not 80 = .ok (.invokevirtual 178, 3) := by decide +kernel
theorem dX11_not_83 : decode cX11_not 83 = .ok (.invokevirtual 171, 3) := by decide +kernel
theorem dX11_not_86 : decode cX11_not 86 = .ok (.ireturn, 1) := by decide +kernel
theorem dX11_bind_0 : decode cX11_bind 0 = .ok (.aload_n 0, 1) := by decide +kernel
theorem dX11_bind_1 : decode cX11_bind 1 = .ok (.aload_n 0, 1) := by decide +kernel
theorem dX11_bind_2 : decode cX11_bind 2 = .ok (.iload 4, 2) := by decide +kernel
theorem dX11_bind_4 : decode cX11_bind 4 = .ok (.invokevirtual 175, 3) := by decide +kernel
theorem dX11_bind_7 : decode cX11_bind 7 = .ok (.iconst 1, 1) := by decide +kernel
theorem dX11_bind_8 : decode cX11_bind 8 = .ok (.invokevirtual 40, 3) := by decide +kernel
theorem dX11_bind_11 : decode cX11_bind 11 = .ok (.ifCond .ne 95, 3) := by decide +kernel
theorem dX11_bind_14 : decode cX11_bind 14 = .ok (.aload_n 0, 1) := by decide +kernel
theorem dX11_bind_15 : decode cX11_bind 15 = .ok (.iload_n 1, 1) := by decide +kernel
theorem dX11_bind_16 : decode cX11_bind 16 = .ok (.bipush 65, 2) := by decide +kernel
theorem dX11_bind_18 : decode cX11_bind 18 = .ok (.if_icmp .eq 9, 3) := by decide +kernel
theorem dX11_bind_21 : decode cX11_bind 21 = .ok (.iload_n 1, 1) := by decide +kernel
theorem dX11_bind_22 : decode cX11_bind 22 = .ok (.bipush 69, 2) := by decide +kernel
theorem dX11_bind_24 : decode cX11_bind 24 = .ok (.if_icmp .ne 24, 3) := by decide +kernel
theorem dX11_bind_27 : decode cX11_bind 27 = .ok (.iload_n 2, 1) := by decide +kernel
theorem dX11_bind_28 : decode cX11_bind 28 = .ok (.iconst 0, 1) := by decide +kernel
theorem dX11_bind_29 : decode cX11_bind 29 = .ok (.iconst 3, 1) := by decide +kernel
theorem dX11_bind_30 : decode cX11_bind 30 = .ok (.invokestatic 36, 3) := by decide +kernel
theorem dX11_bind_33 : decode cX11_bind 33 = .ok (.ifCond .eq 15, 3) := by decide +kernel
theorem dX11_bind_36 : decode cX11_bind 36 = .ok (.aload_n 0, 1) := by decide +kernel
theorem dX11_bind_37 : decode cX11_bind 37 = .ok (.iload_n 3, 1) := by decide +kernel
theorem dX11_bind_38 : decode cX11_bind 38 = .ok (.invokevirtual 165, 3) := by decide +kernel
theorem dX11_bind_41 : decode cX11_bind 41 = .ok (.ifCond .eq 7, 3) := by decide +kernel
theorem dX11_bind_44 : decode cX11_bind 44 = .ok (.iconst 1, 1) := by decide +kernel
theorem dX11_bind_45 : decode cX11_bind 45 = .ok (.goto 4, 3) := by decide +kernel
theorem dX11_bind_48 : decode cX11_bind 48 = .ok (.iconst 0, 1) := by decide +kernel
theorem dX11_bind_49 : decode cX11_bind 49 = .ok (.iconst 2, 1) := by decide +kernel
theorem dX11_bind_50 : decode cX11_bind 50 = .ok (.invokevirtual 40, 3) := by decide +kernel
theorem dX11_bind_53 : decode cX11_bind 53 = .ok (.ifCond .ne 53, 3) := by decide +kernel
theorem dX11_bind_56 : decode cX11_bind 56 = .ok (.aload_n 0, 1) := by decide +kernel
theorem dX11_bind_57 : decode cX11_bind 57 = .ok (.aload_n 0, 1) := by decide +kernel
theorem dX11_bind_58 : decode cX11_bind 58 = .ok (.iload 4, 2) := by decide +kernel
theorem dX11_bind_60 : decode cX11_bind 60 = .ok (.invokevirtual 178, 3) := by decide +kernel
theorem dX11_bind_63 : decode cX11_bind 63 = .ok (.iconst 5, 1) := by decide +kernel
theorem dX11_bind_64 : decode cX11_bind 64 = .ok (.if_icmp .gt 7, 3) := by decide +kernel
theorem dX11_bind_67 : decode cX11_bind 67 = .ok (.iconst 1, 1) := by decide +kernel
theorem dX11_bind_68 : decode cX11_bind 68 = .ok (.goto 4, 3) := by decide +kernel
theorem dX11_bind_71 : decode cX11_bind 71 = .ok (.iconst 0, 1) := by decide +kernel
theorem dX11_bind_72 : decode cX11_bind 72 = .ok (.iconst 3, 1) := by decide +kernel
theorem dX11_bind_73 : decode cX11_bind 73 = .ok (.invokevirtual 40, 3) := by decide +kernel
theorem dX11_bind_76 : decode cX11_bind 76 = .ok (.ifCond .ne 30, 3) := by decide +kernel
theorem dX11_bind_79 : decode cX11_bind 79 = .ok (.aload_n 0, 1) := by decide +kernel
theorem dX11_bind_80 : decode cX11_bind 80 = .ok (.aload_n 0, 1) := by decide +kernel
theorem dX11_bind_81 : decode cX11_bind 81 = .ok (.getfield 19, 3) := by decide +kernel
theorem dX11_bind_84 : decode cX11_bind 84 = .ok (.invokeinterface 30 1, 5) := by decide +kernel
theorem dX11_bind_89 : decode cX11_bind 89 = .ok (.bipush 16, 2) := by decide +kernel
theorem dX11_bind_91 : decode cX11_bind 91 = .ok (.if_icmp .ge 7, 3) := by decide +kernel
theorem dX11_bind_94 : decode cX11_bind 94 = .ok (.iconst 1, 1) := by decide +kernel
theorem dX11_bind_95 : decode cX11_bind 95 = .ok (.goto 4, 3) := by decide +kernel
theorem dX11_bind_98 : decode cX11_bind 98 = .ok (.iconst 0, 1) := by decide +kernel
theorem dX11_bind_99 : decode cX11_bind 99 = .ok (.iconst 4, 1) := by decide +kernel
theorem dX11_bind_100 : decode cX11_bind 100 = .ok (.invokevirtual 40, 3) := by decide +kernel
theorem dX11_bind_103 : decode cX11_bind 103 = .ok (.ifCond .eq 5, 3) := by decide +kernel
theorem dX11_bind_106 : decode cX11_bind 106 = .ok (.iconst 0, 1) := by decide +kernel
theorem dX11_bind_107 : decode cX11_bind 107 = .ok (.ireturn, 1) := by decide +kernel
theorem dX11_bind_108 : decode cX11_bind 108 = .ok (.aload_n 0, 1) := by decide +kernel
theorem dX11_bind_109 : decode cX11_bind 109 = .ok (.new 161, 3) := by decide +kernel
theorem dX11_bind_112 : decode cX11_bind 112 = .ok (.dup, 1) := by decide +kernel
theorem dX11_bind_113 : decode cX11_bind 113 = .ok (.iload_n 1, 1) := by decide +kernel
theorem dX11_bind_114 : decode cX11_bind 114 = .ok (.iload 4, 2) := by decide +kernel
theorem dX11_bind_116 : decode cX11_bind 116 = .ok (.iconst 0, 1) := by decide +kernel
theorem dX11_bind_117 : decode cX11_bind 117 = .ok (.iload_n 2, 1) := by decide +kernel
theorem dX11_bind_118 : decode cX11_bind 118 = .ok (.iload_n 3, 1) := by decide +kernel
theorem dX11_bind_119 : decode cX11_bind 119 = .ok (.invokespecial 168, 3) := by decide +kernel
theorem dX11_bind_122 : decode cX11_bind 122 = .ok (.aload_n 0, 1) := by decide +kernel
theorem dX11_bind_123 : decode cX11_bind 123 = .ok (.iload 4, 2) := by decide +kernel
theorem dX11_bind_125 : decode cX11_bind 125 = .ok (.invokevirtual 178, 3) := by decide +kernel
theorem dX11_bind_128 : decode cX11_bind 128 = .ok (.invokevirtual 171, 3) := by decide +kernel
theorem dX11_bind_131 : decode cX11_bind 131 = .ok (.ireturn, 1) := by decide +kernel
theorem dX11_letterOf_0 : decode cX11_letterOf 0 = .ok (.iload_n 0, 1) := by decide +kernel
theorem dX11_letterOf_1 : decode cX11_letterOf 1 = .ok (.bipush 100, 2) := by decide +kernel
theorem dX11_letterOf_3 : decode cX11_letterOf 3 = .ok (.if_icmp .lt 12, 3) := by decide +kernel
theorem dX11_letterOf_6 : decode cX11_letterOf 6 = .ok (.iconst 1, 1) := by decide +kernel
theorem dX11_letterOf_7 : decode cX11_letterOf 7 = .ok (.iload_n 0, 1) := by decide +kernel
theorem dX11_letterOf_8 : decode cX11_letterOf 8 = .ok (.bipush 100, 2) := by decide +kernel
theorem dX11_letterOf_10 : decode cX11_letterOf 10 = .ok (.isub, 1) := by decide +kernel
theorem dX11_letterOf_11 : decode cX11_letterOf 11 = .ok (.ishl, 1) := by decide +kernel
theorem dX11_letterOf_12 : decode cX11_letterOf 12 = .ok (.goto 4, 3) := by decide +kernel
theorem dX11_letterOf_15 : decode cX11_letterOf 15 = .ok (.iconst 0, 1) := by decide +kernel
theorem dX11_letterOf_16 : decode cX11_letterOf 16 = .ok (.ireturn, 1) := by decide +kernel
theorem dX11_freeOf_0 : decode cX11_freeOf 0 = .ok (.aload_n 0, 1) := by decide +kernel
theorem dX11_freeOf_1 : decode cX11_freeOf 1 = .ok (.getfield 19, 3) := by decide +kernel
theorem dX11_freeOf_4 : decode cX11_freeOf 4 = .ok (.iload_n 1, 1) := by decide +kernel
theorem dX11_freeOf_5 : decode cX11_freeOf 5 = .ok (.invokeinterface 54 2, 5) := by decide +kernel
theorem dX11_freeOf_10 : decode cX11_freeOf 10 = .ok (.checkcast 161, 3) := by decide +kernel
theorem dX11_freeOf_13 : decode cX11_freeOf 13 = .ok (.astore_n 2, 1) := by decide +kernel
theorem dX11_freeOf_14 : decode cX11_freeOf 14 = .ok (.aload_n 2, 1) := by decide +kernel
theorem dX11_freeOf_15 : decode cX11_freeOf 15 = .ok (.getfield 181, 3) := by decide +kernel
theorem dX11_freeOf_18 : decode cX11_freeOf 18 = .ok (.lookupswitch 93 #[(61, 50), (97, 66), (101, 50), (110, 84), (111, 66)], 50) := by decide +kernel
theorem dX11_freeOf_68 : decode cX11_freeOf 68 = .ok (.aload_n 2, 1) := by decide +kernel
theorem dX11_freeOf_69 : decode cX11_freeOf 69 = .ok (.getfield 185, 3) := by decide +kernel
theorem dX11_freeOf_72 : decode cX11_freeOf 72 = .ok (.invokestatic 188, 3) := by decide +kernel
theorem dX11_freeOf_75 : decode cX11_freeOf 75 = .ok (.aload_n 2, 1) := by decide +kernel
theorem dX11_freeOf_76 : decode cX11_freeOf 76 = .ok (.getfield 191, 3) := by decide +kernel
theorem dX11_freeOf_79 : decode cX11_freeOf 79 = .ok (.invokestatic 188, 3) := by decide +kernel
theorem dX11_freeOf_82 : decode cX11_freeOf 82 = .ok (.ior, 1) := by decide +kernel
theorem dX11_freeOf_83 : decode cX11_freeOf 83 = .ok (.ireturn, 1) := by decide +kernel
theorem dX11_freeOf_84 : decode cX11_freeOf 84 = .ok (.aload_n 0, 1) := by decide +kernel
theorem dX11_freeOf_85 : decode cX11_freeOf 85 = .ok (.aload_n 2, 1) := by decide +kernel
theorem dX11_freeOf_86 : decode cX11_freeOf 86 = .ok (.getfield 185, 3) := by decide +kernel
theorem dX11_freeOf_89 : decode cX11_freeOf 89 = .ok (.invokevirtual 194, 3) := by decide +kernel
theorem dX11_freeOf_92 : decode cX11_freeOf 92 = .ok (.aload_n 0, 1) := by decide +kernel
theorem dX11_freeOf_93 : decode cX11_freeOf 93 = .ok (.aload_n 2, 1) := by decide +kernel
theorem dX11_freeOf_94 : decode cX11_freeOf 94 = .ok (.getfield 191, 3) := by decide +kernel
theorem dX11_freeOf_97 : decode cX11_freeOf 97 = .ok (.invokevirtual 194, 3) := by decide +kernel
theorem dX11_freeOf_100 : decode cX11_freeOf 100 = .ok (.ior, 1) := by decide +kernel
theorem dX11_freeOf_101 : decode cX11_freeOf 101 = .ok (.ireturn, 1) := by decide +kernel
theorem dX11_freeOf_102 : decode cX11_freeOf 102 = .ok (.aload_n 0, 1) := by decide +kernel
theorem dX11_freeOf_103 : decode cX11_freeOf 103 = .ok (.aload_n 2, 1) := by decide +kernel
theorem dX11_freeOf_104 : decode cX11_freeOf 104 = .ok (.getfield 185, 3) := by decide +kernel
theorem dX11_freeOf_107 : decode cX11_freeOf 107 = .ok (.invokevirtual 194, 3) := by decide +kernel
theorem dX11_freeOf_110 : decode cX11_freeOf 110 = .ok (.ireturn, 1) := by decide +kernel
theorem dX11_freeOf_111 : decode cX11_freeOf 111 = .ok (.aload_n 0, 1) := by decide +kernel
theorem dX11_freeOf_112 : decode cX11_freeOf 112 = .ok (.aload_n 2, 1) := by decide +kernel
theorem dX11_freeOf_113 : decode cX11_freeOf 113 = .ok (.getfield 185, 3) := by decide +kernel
theorem dX11_freeOf_116 : decode cX11_freeOf 116 = .ok (.invokevirtual 194, 3) := by decide +kernel
theorem dX11_freeOf_119 : decode cX11_freeOf 119 = .ok (.iconst 1, 1) := by decide +kernel
theorem dX11_freeOf_120 : decode cX11_freeOf 120 = .ok (.aload_n 2, 1) := by decide +kernel
theorem dX11_freeOf_121 : decode cX11_freeOf 121 = .ok (.getfield 197, 3) := by decide +kernel
theorem dX11_freeOf_124 : decode cX11_freeOf 124 = .ok (.ishl, 1) := by decide +kernel
theorem dX11_freeOf_125 : decode cX11_freeOf 125 = .ok (.iconst (-1), 1) := by decide +kernel
theorem dX11_freeOf_126 : decode cX11_freeOf 126 = .ok (.ixor, 1) := by decide +kernel
theorem dX11_freeOf_127 : decode cX11_freeOf 127 = .ok (.iand, 1) := by decide +kernel
theorem dX11_freeOf_128 : decode cX11_freeOf 128 = .ok (.aload_n 2, 1) := by decide +kernel
theorem dX11_freeOf_129 : decode cX11_freeOf 129 = .ok (.getfield 200, 3) := by decide +kernel
theorem dX11_freeOf_132 : decode cX11_freeOf 132 = .ok (.invokestatic 188, 3) := by decide +kernel
theorem dX11_freeOf_135 : decode cX11_freeOf 135 = .ok (.ior, 1) := by decide +kernel
theorem dX11_freeOf_136 : decode cX11_freeOf 136 = .ok (.ireturn, 1) := by decide +kernel
theorem dX11_free_0 : decode cX11_free 0 = .ok (.aload_n 0, 1) := by decide +kernel
theorem dX11_free_1 : decode cX11_free 1 = .ok (.aload_n 0, 1) := by decide +kernel
theorem dX11_free_2 : decode cX11_free 2 = .ok (.iload_n 1, 1) := by decide +kernel
theorem dX11_free_3 : decode cX11_free 3 = .ok (.invokevirtual 175, 3) := by decide +kernel
theorem dX11_free_6 : decode cX11_free 6 = .ok (.iconst 1, 1) := by decide +kernel
theorem dX11_free_7 : decode cX11_free 7 = .ok (.invokevirtual 40, 3) := by decide +kernel
theorem dX11_free_10 : decode cX11_free 10 = .ok (.ifCond .eq 7, 3) := by decide +kernel
theorem dX11_free_13 : decode cX11_free 13 = .ok (.iconst 0, 1) := by decide +kernel
theorem dX11_free_14 : decode cX11_free 14 = .ok (.goto 8, 3) := by decide +kernel
theorem dX11_free_17 : decode cX11_free 17 = .ok (.aload_n 0, 1) := by decide +kernel
theorem dX11_free_18 : decode cX11_free 18 = .ok (.iload_n 1, 1) := by decide +kernel
theorem dX11_free_19 : decode cX11_free 19 = .ok (.invokevirtual 194, 3) := by decide +kernel
theorem dX11_free_22 : decode cX11_free 22 = .ok (.ireturn, 1) := by decide +kernel
theorem dX11_isSo_0 : decode cX11_isSo 0 = .ok (.aload_n 0, 1) := by decide +kernel
theorem dX11_isSo_1 : decode cX11_isSo 1 = .ok (.getfield 19, 3) := by decide +kernel
theorem dX11_isSo_4 : decode cX11_isSo 4 = .ok (.iload_n 1, 1) := by decide +kernel
theorem dX11_isSo_5 : decode cX11_isSo 5 = .ok (.invokeinterface 54 2, 5) := by decide +kernel
theorem dX11_isSo_10 : decode cX11_isSo 10 = .ok (.checkcast 161, 3) := by decide +kernel
theorem dX11_isSo_13 : decode cX11_isSo 13 = .ok (.astore 4, 2) := by decide +kernel
theorem dX11_isSo_15 : decode cX11_isSo 15 = .ok (.aload 4, 2) := by decide +kernel
theorem dX11_isSo_17 : decode cX11_isSo 17 = .ok (.getfield 181, 3) := by decide +kernel
theorem dX11_isSo_20 : decode cX11_isSo 20 = .ok (.lookupswitch 197 #[(61, 78), (97, 109), (101, 52), (110, 177), (111, 143)], 52) := by decide +kernel
theorem dX11_isSo_72 : decode cX11_isSo 72 = .ok (.aload_n 0, 1) := by decide +kernel
theorem dX11_isSo_73 : decode cX11_isSo 73 = .ok (.aload 4, 2) := by decide +kernel
theorem dX11_isSo_75 : decode cX11_isSo 75 = .ok (.getfield 191, 3) := by decide +kernel
theorem dX11_isSo_78 : decode cX11_isSo 78 = .ok (.iload_n 2, 1) := by decide +kernel
theorem dX11_isSo_79 : decode cX11_isSo 79 = .ok (.aload_n 3, 1) := by decide +kernel
theorem dX11_isSo_80 : decode cX11_isSo 80 = .ok (.invokevirtual 203, 3) := by decide +kernel
theorem dX11_isSo_83 : decode cX11_isSo 83 = .ok (.aload_n 0, 1) := by decide +kernel
theorem dX11_isSo_84 : decode cX11_isSo 84 = .ok (.aload 4, 2) := by decide +kernel
theorem dX11_isSo_86 : decode cX11_isSo 86 = .ok (.getfield 185, 3) := by decide +kernel
theorem dX11_isSo_89 : decode cX11_isSo 89 = .ok (.iload_n 2, 1) := by decide +kernel
theorem dX11_isSo_90 : decode cX11_isSo 90 = .ok (.aload_n 3, 1) := by decide +kernel
theorem dX11_isSo_91 : decode cX11_isSo 91 = .ok (.invokevirtual 203, 3) := by decide +kernel
theorem dX11_isSo_94 : decode cX11_isSo 94 = .ok (.invokestatic 61, 3) := by decide +kernel
theorem dX11_isSo_97 : decode cX11_isSo 97 = .ok (.ireturn, 1) := by decide +kernel
theorem dX11_isSo_98 : decode cX11_isSo 98 = .ok (.aload_n 0, 1) := by decide +kernel
theorem dX11_isSo_99 : decode cX11_isSo 99 = .ok (.aload 4, 2) := by decide +kernel
theorem dX11_isSo_101 : decode cX11_isSo 101 = .ok (.getfield 185, 3) := by decide +kernel
theorem dX11_isSo_104 : decode cX11_isSo 104 = .ok (.iload_n 2, 1) := by decide +kernel
theorem dX11_isSo_105 : decode cX11_isSo 105 = .ok (.aload_n 3, 1) := by decide +kernel
theorem dX11_isSo_106 : decode cX11_isSo 106 = .ok (.invokevirtual 203, 3) := by decide +kernel
theorem dX11_isSo_109 : decode cX11_isSo 109 = .ok (.aload_n 0, 1) := by decide +kernel
theorem dX11_isSo_110 : decode cX11_isSo 110 = .ok (.aload 4, 2) := by decide +kernel
theorem dX11_isSo_112 : decode cX11_isSo 112 = .ok (.getfield 191, 3) := by decide +kernel
theorem dX11_isSo_115 : decode cX11_isSo 115 = .ok (.iload_n 2, 1) := by decide +kernel
theorem dX11_isSo_116 : decode cX11_isSo 116 = .ok (.aload_n 3, 1) := by decide +kernel
theorem dX11_isSo_117 : decode cX11_isSo 117 = .ok (.invokevirtual 203, 3) := by decide +kernel
theorem dX11_isSo_120 : decode cX11_isSo 120 = .ok (.if_icmp .ne 7, 3) := by decide +kernel
theorem dX11_isSo_123 : decode cX11_isSo 123 = .ok (.iconst 1, 1) := by decide +kernel
theorem dX11_isSo_124 : decode cX11_isSo 124 = .ok (.goto 4, 3) := by decide +kernel
theorem dX11_isSo_127 : decode cX11_isSo 127 = .ok (.iconst 0, 1) := by decide +kernel
theorem dX11_isSo_128 : decode cX11_isSo 128 = .ok (.ireturn, 1) := by decide +kernel
theorem dX11_isSo_129 : decode cX11_isSo 129 = .ok (.aload_n 0, 1) := by decide +kernel
theorem dX11_isSo_130 : decode cX11_isSo 130 = .ok (.aload 4, 2) := by decide +kernel
theorem dX11_isSo_132 : decode cX11_isSo 132 = .ok (.getfield 185, 3) := by decide +kernel
theorem dX11_isSo_135 : decode cX11_isSo 135 = .ok (.iload_n 2, 1) := by decide +kernel
theorem dX11_isSo_136 : decode cX11_isSo 136 = .ok (.aload_n 3, 1) := by decide +kernel
theorem dX11_isSo_137 : decode cX11_isSo 137 = .ok (.invokevirtual 206, 3) := by decide +kernel
theorem dX11_isSo_140 : decode cX11_isSo 140 = .ok (.ifCond .eq 21, 3) := by decide +kernel
theorem dX11_isSo_143 : decode cX11_isSo 143 = .ok (.aload_n 0, 1) := by decide +kernel
theorem dX11_isSo_144 : decode cX11_isSo 144 = .ok (.aload 4, 2) := by decide +kernel
theorem dX11_isSo_146 : decode cX11_isSo 146 = .ok (.getfield 191, 3) := by decide +kernel
theorem dX11_isSo_149 : decode cX11_isSo 149 = .ok (.iload_n 2, 1) := by decide +kernel
theorem dX11_isSo_150 : decode cX11_isSo 150 = .ok (.aload_n 3, 1) := by decide +kernel
theorem dX11_isSo_151 : decode cX11_isSo 151 = .ok (.invokevirtual 206, 3) := by decide +kernel
theorem dX11_isSo_154 : decode cX11_isSo 154 = .ok (.ifCond .eq 7, 3) := by decide +kernel
theorem dX11_isSo_157 : decode cX11_isSo 157 = .ok (.iconst 1, 1) := by decide +kernel
theorem dX11_isSo_158 : decode cX11_isSo 158 = .ok (.goto 4, 3) := by decide +kernel
theorem dX11_isSo_161 : decode cX11_isSo 161 = .ok (.iconst 0, 1) := by decide +kernel
theorem dX11_isSo_162 : decode cX11_isSo 162 = .ok (.ireturn, 1) := by decide +kernel
theorem dX11_isSo_163 : decode cX11_isSo 163 = .ok (.aload_n 0, 1) := by decide +kernel
theorem dX11_isSo_164 : decode cX11_isSo 164 = .ok (.aload 4, 2) := by decide +kernel
theorem dX11_isSo_166 : decode cX11_isSo 166 = .ok (.getfield 185, 3) := by decide +kernel
theorem dX11_isSo_169 : decode cX11_isSo 169 = .ok (.iload_n 2, 1) := by decide +kernel
theorem dX11_isSo_170 : decode cX11_isSo 170 = .ok (.aload_n 3, 1) := by decide +kernel
theorem dX11_isSo_171 : decode cX11_isSo 171 = .ok (.invokevirtual 206, 3) := by decide +kernel
theorem dX11_isSo_174 : decode cX11_isSo 174 = .ok (.ifCond .ne 17, 3) := by decide +kernel
theorem dX11_isSo_177 : decode cX11_isSo 177 = .ok (.aload_n 0, 1) := by decide +kernel
theorem dX11_isSo_178 : decode cX11_isSo 178 = .ok (.aload 4, 2) := by decide +kernel
theorem dX11_isSo_180 : decode cX11_isSo 180 = .ok (.getfield 191, 3) := by decide +kernel
theorem dX11_isSo_183 : decode cX11_isSo 183 = .ok (.iload_n 2, 1) := by decide +kernel
theorem dX11_isSo_184 : decode cX11_isSo 184 = .ok (.aload_n 3, 1) := by decide +kernel
theorem dX11_isSo_185 : decode cX11_isSo 185 = .ok (.invokevirtual 206, 3) := by decide +kernel
theorem dX11_isSo_188 : decode cX11_isSo 188 = .ok (.ifCond .eq 7, 3) := by decide +kernel
theorem dX11_isSo_191 : decode cX11_isSo 191 = .ok (.iconst 1, 1) := by decide +kernel
theorem dX11_isSo_192 : decode cX11_isSo 192 = .ok (.goto 4, 3) := by decide +kernel
theorem dX11_isSo_195 : decode cX11_isSo 195 = .ok (.iconst 0, 1) := by decide +kernel
theorem dX11_isSo_196 : decode cX11_isSo 196 = .ok (.ireturn, 1) := by decide +kernel
theorem dX11_isSo_197 : decode cX11_isSo 197 = .ok (.aload_n 0, 1) := by decide +kernel
theorem dX11_isSo_198 : decode cX11_isSo 198 = .ok (.aload 4, 2) := by decide +kernel
theorem dX11_isSo_200 : decode cX11_isSo 200 = .ok (.getfield 185, 3) := by decide +kernel
theorem dX11_isSo_203 : decode cX11_isSo 203 = .ok (.iload_n 2, 1) := by decide +kernel
theorem dX11_isSo_204 : decode cX11_isSo 204 = .ok (.aload_n 3, 1) := by decide +kernel
theorem dX11_isSo_205 : decode cX11_isSo 205 = .ok (.invokevirtual 206, 3) := by decide +kernel
theorem dX11_isSo_208 : decode cX11_isSo 208 = .ok (.ifCond .ne 7, 3) := by decide +kernel
theorem dX11_isSo_211 : decode cX11_isSo 211 = .ok (.iconst 1, 1) := by decide +kernel
theorem dX11_isSo_212 : decode cX11_isSo 212 = .ok (.goto 4, 3) := by decide +kernel
theorem dX11_isSo_215 : decode cX11_isSo 215 = .ok (.iconst 0, 1) := by decide +kernel
theorem dX11_isSo_216 : decode cX11_isSo 216 = .ok (.ireturn, 1) := by decide +kernel
theorem dX11_isSo_217 : decode cX11_isSo 217 = .ok (.aload_n 0, 1) := by decide +kernel
theorem dX11_isSo_218 : decode cX11_isSo 218 = .ok (.aload 4, 2) := by decide +kernel
theorem dX11_isSo_220 : decode cX11_isSo 220 = .ok (.getfield 200, 3) := by decide +kernel
theorem dX11_isSo_223 : decode cX11_isSo 223 = .ok (.iload_n 2, 1) := by decide +kernel
theorem dX11_isSo_224 : decode cX11_isSo 224 = .ok (.aload_n 3, 1) := by decide +kernel
theorem dX11_isSo_225 : decode cX11_isSo 225 = .ok (.invokevirtual 203, 3) := by decide +kernel
theorem dX11_isSo_228 : decode cX11_isSo 228 = .ok (.istore 5, 2) := by decide +kernel
theorem dX11_isSo_230 : decode cX11_isSo 230 = .ok (.iconst 1, 1) := by decide +kernel
theorem dX11_isSo_231 : decode cX11_isSo 231 = .ok (.istore 6, 2) := by decide +kernel
theorem dX11_isSo_233 : decode cX11_isSo 233 = .ok (.iconst 0, 1) := by decide +kernel
theorem dX11_isSo_234 : decode cX11_isSo 234 = .ok (.istore 7, 2) := by decide +kernel
theorem dX11_isSo_236 : decode cX11_isSo 236 = .ok (.iconst 0, 1) := by decide +kernel
theorem dX11_isSo_237 : decode cX11_isSo 237 = .ok (.istore 8, 2) := by decide +kernel
theorem dX11_isSo_239 : decode cX11_isSo 239 = .ok (.iload 8, 2) := by decide +kernel
theorem dX11_isSo_241 : decode cX11_isSo 241 = .ok (.bipush 16, 2) := by decide +kernel
theorem dX11_isSo_243 : decode cX11_isSo 243 = .ok (.if_icmp .ge 69, 3) := by decide +kernel
theorem dX11_isSo_246 : decode cX11_isSo 246 = .ok (.iload 5, 2) := by decide +kernel
theorem dX11_isSo_248 : decode cX11_isSo 248 = .ok (.iload 8, 2) := by decide +kernel
theorem dX11_isSo_250 : decode cX11_isSo 250 = .ok (.invokestatic 61, 3) := by decide +kernel
theorem dX11_isSo_253 : decode cX11_isSo 253 = .ok (.ifCond .ne 6, 3) := by decide +kernel
theorem dX11_isSo_256 : decode cX11_isSo 256 = .ok (.goto 50, 3) := by decide +kernel
theorem dX11_isSo_259 : decode cX11_isSo 259 = .ok (.aload_n 3, 1) := by decide +kernel
theorem dX11_isSo_260 : decode cX11_isSo 260 = .ok (.invokevirtual 210, 3) := by decide +kernel
theorem dX11_isSo_263 : decode cX11_isSo 263 = .ok (.checkcast 127, 3) := by decide +kernel
theorem dX11_isSo_266 : decode cX11_isSo 266 = .ok (.astore 9, 2) := by decide +kernel
theorem dX11_isSo_268 : decode cX11_isSo 268 = .ok (.aload 9, 2) := by decide +kernel
theorem dX11_isSo_270 : decode cX11_isSo 270 = .ok (.aload 4, 2) := by decide +kernel
theorem dX11_isSo_272 : decode cX11_isSo 272 = .ok (.getfield 197, 3) := by decide +kernel
theorem dX11_isSo_275 : decode cX11_isSo 275 = .ok (.iload 8, 2) := by decide +kernel
theorem dX11_isSo_277 : decode cX11_isSo 277 = .ok (.iastore, 1) := by decide +kernel
theorem dX11_isSo_278 : decode cX11_isSo 278 = .ok (.aload_n 0, 1) := by decide +kernel
theorem dX11_isSo_279 : decode cX11_isSo 279 = .ok (.aload 4, 2) := by decide +kernel
theorem dX11_isSo_281 : decode cX11_isSo 281 = .ok (.getfield 185, 3) := by decide +kernel
theorem dX11_isSo_284 : decode cX11_isSo 284 = .ok (.iload_n 2, 1) := by decide +kernel
theorem dX11_isSo_285 : decode cX11_isSo 285 = .ok (.aload 9, 2) := by decide +kernel
theorem dX11_isSo_287 : decode cX11_isSo 287 = .ok (.invokevirtual 206, 3) := by decide +kernel
theorem dX11_isSo_290 : decode cX11_isSo 290 = .ok (.istore 10, 2) := by decide +kernel
theorem dX11_isSo_292 : decode cX11_isSo 292 = .ok (.iload 6, 2) := by decide +kernel
theorem dX11_isSo_294 : decode cX11_isSo 294 = .ok (.iload 10, 2) := by decide +kernel
theorem dX11_isSo_296 : decode cX11_isSo 296 = .ok (.iand, 1) := by decide +kernel
theorem dX11_isSo_297 : decode cX11_isSo 297 = .ok (.istore 6, 2) := by decide +kernel
theorem dX11_isSo_299 : decode cX11_isSo 299 = .ok (.iload 7, 2) := by decide +kernel
theorem dX11_isSo_301 : decode cX11_isSo 301 = .ok (.iload 10, 2) := by decide +kernel
theorem dX11_isSo_303 : decode cX11_isSo 303 = .ok (.ior, 1) := by decide +kernel
theorem dX11_isSo_304 : decode cX11_isSo 304 = .ok (.istore 7, 2) := by decide +kernel
theorem dX11_isSo_306 : decode cX11_isSo 306 = .ok (.iinc 8 1, 3) := by decide +kernel
theorem dX11_isSo_309 : decode cX11_isSo 309 = .ok (.goto (-70), 3) := by decide +kernel
theorem dX11_isSo_312 : decode cX11_isSo 312 = .ok (.aload 4, 2) := by decide +kernel
theorem dX11_isSo_314 : decode cX11_isSo 314 = .ok (.getfield 181, 3) := by decide +kernel
theorem dX11_isSo_317 : decode cX11_isSo 317 = .ok (.bipush 65, 2) := by decide +kernel
theorem dX11_isSo_319 : decode cX11_isSo 319 = .ok (.if_icmp .ne 8, 3) := by decide +kernel
theorem dX11_isSo_322 : decode cX11_isSo 322 = .ok (.iload 6, 2) := by decide +kernel
theorem dX11_isSo_324 : decode cX11_isSo 324 = .ok (.goto 5, 3) := by decide +kernel
theorem dX11_isSo_327 : decode cX11_isSo 327 = .ok (.iload 7, 2) := by decide +kernel
theorem dX11_isSo_329 : decode cX11_isSo 329 = .ok (.ireturn, 1) := by decide +kernel
theorem dX11_code_0 : decode cX11_code 0 = .ok (.iload_n 1, 1) := by decide +kernel
theorem dX11_code_1 : decode cX11_code 1 = .ok (.bipush 100, 2) := by decide +kernel
theorem dX11_code_3 : decode cX11_code 3 = .ok (.if_icmp .lt 12, 3) := by decide +kernel
theorem dX11_code_6 : decode cX11_code 6 = .ok (.aload_n 3, 1) := by decide +kernel
theorem dX11_code_7 : decode cX11_code 7 = .ok (.iload_n 1, 1) := by decide +kernel
theorem dX11_code_8 : decode cX11_code 8 = .ok (.bipush 100, 2) := by decide +kernel
theorem dX11_code_10 : decode cX11_code 10 = .ok (.isub, 1) := by decide +kernel
theorem dX11_code_11 : decode cX11_code 11 = .ok (.iaload, 1) := by decide +kernel
theorem dX11_code_12 : decode cX11_code 12 = .ok (.goto 9, 3) := by decide +kernel
theorem dX11_code_15 : decode cX11_code 15 = .ok (.aload_n 0, 1) := by decide +kernel
theorem dX11_code_16 : decode cX11_code 16 = .ok (.iload_n 1, 1) := by decide +kernel
theorem dX11_code_17 : decode cX11_code 17 = .ok (.iload_n 2, 1) := by decide +kernel
theorem dX11_code_18 : decode cX11_code 18 = .ok (.invokevirtual 153, 3) := by decide +kernel
theorem dX11_code_21 : decode cX11_code 21 = .ok (.ireturn, 1) := by decide +kernel
theorem dX11_valueOf_0 : decode cX11_valueOf 0 = .ok (.iconst 0, 1) := by decide +kernel
theorem dX11_valueOf_1 : decode cX11_valueOf 1 = .ok (.istore_n 2, 1) := by decide +kernel
theorem dX11_valueOf_2 : decode cX11_valueOf 2 = .ok (.iconst 0, 1) := by decide +kernel
theorem dX11_valueOf_3 : decode cX11_valueOf 3 = .ok (.istore_n 3, 1) := by decide +kernel
theorem dX11_valueOf_4 : decode cX11_valueOf 4 = .ok (.iload_n 3, 1) := by decide +kernel
theorem dX11_valueOf_5 : decode cX11_valueOf 5 = .ok (.aload_n 0, 1) := by decide +kernel
theorem dX11_valueOf_6 : decode cX11_valueOf 6 = .ok (.getfield 10, 3) := by decide +kernel
theorem dX11_valueOf_9 : decode cX11_valueOf 9 = .ok (.invokeinterface 30 1, 5) := by decide +kernel
theorem dX11_valueOf_14 : decode cX11_valueOf 14 = .ok (.if_icmp .ge 42, 3) := by decide +kernel
theorem dX11_valueOf_17 : decode cX11_valueOf 17 = .ok (.iload_n 2, 1) := by decide +kernel
theorem dX11_valueOf_18 : decode cX11_valueOf 18 = .ok (.aload_n 0, 1) := by decide +kernel
theorem dX11_valueOf_19 : decode cX11_valueOf 19 = .ok (.invokevirtual 97, 3) := by decide +kernel
theorem dX11_valueOf_22 : decode cX11_valueOf 22 = .ok (.iload_n 3, 1) := by decide +kernel
theorem dX11_valueOf_23 : decode cX11_valueOf 23 = .ok (.invokestatic 61, 3) := by decide +kernel
theorem dX11_valueOf_26 : decode cX11_valueOf 26 = .ok (.ifCond .eq 21, 3) := by decide +kernel
theorem dX11_valueOf_29 : decode cX11_valueOf 29 = .ok (.aload_n 0, 1) := by decide +kernel
theorem dX11_valueOf_30 : decode cX11_valueOf 30 = .ok (.iload_n 1, 1) := by decide +kernel
theorem dX11_valueOf_31 : decode cX11_valueOf 31 = .ok (.iload_n 3, 1) := by decide +kernel
theorem dX11_valueOf_32 : decode cX11_valueOf 32 = .ok (.iconst 4, 1) := by decide +kernel
theorem dX11_valueOf_33 : decode cX11_valueOf 33 = .ok (.newarray .int, 2) := by decide +kernel
theorem dX11_valueOf_35 : decode cX11_valueOf 35 = .ok (.invokevirtual 206, 3) := by decide +kernel
theorem dX11_valueOf_38 : decode cX11_valueOf 38 = .ok (.ifCond .eq 9, 3) := by decide +kernel
theorem dX11_valueOf_41 : decode cX11_valueOf 41 = .ok (.iconst 1, 1) := by decide +kernel
theorem dX11_valueOf_42 : decode cX11_valueOf 42 = .ok (.iload_n 3, 1) := by decide +kernel
theorem dX11_valueOf_43 : decode cX11_valueOf 43 = .ok (.ishl, 1) := by decide +kernel
theorem dX11_valueOf_44 : decode cX11_valueOf 44 = .ok (.goto 4, 3) := by decide +kernel
theorem dX11_valueOf_47 : decode cX11_valueOf 47 = .ok (.iconst 0, 1) := by decide +kernel
theorem dX11_valueOf_48 : decode cX11_valueOf 48 = .ok (.ior, 1) := by decide +kernel
theorem dX11_valueOf_49 : decode cX11_valueOf 49 = .ok (.istore_n 2, 1) := by decide +kernel
theorem dX11_valueOf_50 : decode cX11_valueOf 50 = .ok (.iinc 3 1, 3) := by decide +kernel
theorem dX11_valueOf_53 : decode cX11_valueOf 53 = .ok (.goto (-49), 3) := by decide +kernel
theorem dX11_valueOf_56 : decode cX11_valueOf 56 = .ok (.iload_n 2, 1) := by decide +kernel
theorem dX11_valueOf_57 : decode cX11_valueOf 57 = .ok (.ireturn, 1) := by decide +kernel
theorem dX11_value_0 : decode cX11_value 0 = .ok (.aload_n 0, 1) := by decide +kernel
theorem dX11_value_1 : decode cX11_value 1 = .ok (.aload_n 0, 1) := by decide +kernel
theorem dX11_value_2 : decode cX11_value 2 = .ok (.iload_n 1, 1) := by decide +kernel
theorem dX11_value_3 : decode cX11_value 3 = .ok (.invokevirtual 175, 3) := by decide +kernel
theorem dX11_value_6 : decode cX11_value 6 = .ok (.iconst 1, 1) := by decide +kernel
theorem dX11_value_7 : decode cX11_value 7 = .ok (.invokevirtual 40, 3) := by decide +kernel
theorem dX11_value_10 : decode cX11_value 10 = .ok (.ifCond .ne 24, 3) := by decide +kernel
theorem dX11_value_13 : decode cX11_value 13 = .ok (.aload_n 0, 1) := by decide +kernel
theorem dX11_value_14 : decode cX11_value 14 = .ok (.aload_n 0, 1) := by decide +kernel
theorem dX11_value_15 : decode cX11_value 15 = .ok (.iload_n 1, 1) := by decide +kernel
theorem dX11_value_16 : decode cX11_value 16 = .ok (.invokevirtual 194, 3) := by decide +kernel
theorem dX11_value_19 : decode cX11_value 19 = .ok (.ifCond .ne 7, 3) := by decide +kernel
theorem dX11_value_22 : decode cX11_value 22 = .ok (.iconst 1, 1) := by decide +kernel
theorem dX11_value_23 : decode cX11_value 23 = .ok (.goto 4, 3) := by decide +kernel
theorem dX11_value_26 : decode cX11_value 26 = .ok (.iconst 0, 1) := by decide +kernel
theorem dX11_value_27 : decode cX11_value 27 = .ok (.iconst 2, 1) := by decide +kernel
theorem dX11_value_28 : decode cX11_value 28 = .ok (.invokevirtual 40, 3) := by decide +kernel
theorem dX11_value_31 : decode cX11_value 31 = .ok (.ifCond .eq 7, 3) := by decide +kernel
theorem dX11_value_34 : decode cX11_value 34 = .ok (.iconst 0, 1) := by decide +kernel
theorem dX11_value_35 : decode cX11_value 35 = .ok (.goto 8, 3) := by decide +kernel
theorem dX11_value_38 : decode cX11_value 38 = .ok (.aload_n 0, 1) := by decide +kernel
theorem dX11_value_39 : decode cX11_value 39 = .ok (.iload_n 1, 1) := by decide +kernel
theorem dX11_value_40 : decode cX11_value 40 = .ok (.invokevirtual 213, 3) := by decide +kernel
theorem dX11_value_43 : decode cX11_value 43 = .ok (.ireturn, 1) := by decide +kernel
theorem dX11_forces_0 : decode cX11_forces 0 = .ok (.aload_n 0, 1) := by decide +kernel
theorem dX11_forces_1 : decode cX11_forces 1 = .ok (.aload_n 0, 1) := by decide +kernel
theorem dX11_forces_2 : decode cX11_forces 2 = .ok (.iload_n 1, 1) := by decide +kernel
theorem dX11_forces_3 : decode cX11_forces 3 = .ok (.invokevirtual 65, 3) := by decide +kernel
theorem dX11_forces_6 : decode cX11_forces 6 = .ok (.ifCond .eq 15, 3) := by decide +kernel
theorem dX11_forces_9 : decode cX11_forces 9 = .ok (.aload_n 0, 1) := by decide +kernel
theorem dX11_forces_10 : decode cX11_forces 10 = .ok (.iload_n 2, 1) := by decide +kernel
theorem dX11_forces_11 : decode cX11_forces 11 = .ok (.invokevirtual 175, 3) := by decide +kernel
theorem dX11_forces_14 : decode cX11_forces 14 = .ok (.ifCond .eq 7, 3) := by decide +kernel
theorem dX11_forces_17 : decode cX11_forces 17 = .ok (.iconst 1, 1) := by decide +kernel
theorem dX11_forces_18 : decode cX11_forces 18 = .ok (.goto 4, 3) := by decide +kernel
theorem dX11_forces_21 : decode cX11_forces 21 = .ok (.iconst 0, 1) := by decide +kernel
theorem dX11_forces_22 : decode cX11_forces 22 = .ok (.iconst 1, 1) := by decide +kernel
theorem dX11_forces_23 : decode cX11_forces 23 = .ok (.invokevirtual 40, 3) := by decide +kernel
theorem dX11_forces_26 : decode cX11_forces 26 = .ok (.ifCond .ne 24, 3) := by decide +kernel
theorem dX11_forces_29 : decode cX11_forces 29 = .ok (.aload_n 0, 1) := by decide +kernel
theorem dX11_forces_30 : decode cX11_forces 30 = .ok (.aload_n 0, 1) := by decide +kernel
theorem dX11_forces_31 : decode cX11_forces 31 = .ok (.iload_n 2, 1) := by decide +kernel
theorem dX11_forces_32 : decode cX11_forces 32 = .ok (.invokevirtual 194, 3) := by decide +kernel
theorem dX11_forces_35 : decode cX11_forces 35 = .ok (.ifCond .ne 7, 3) := by decide +kernel
theorem dX11_forces_38 : decode cX11_forces 38 = .ok (.iconst 1, 1) := by decide +kernel
theorem dX11_forces_39 : decode cX11_forces 39 = .ok (.goto 4, 3) := by decide +kernel
theorem dX11_forces_42 : decode cX11_forces 42 = .ok (.iconst 0, 1) := by decide +kernel
theorem dX11_forces_43 : decode cX11_forces 43 = .ok (.iconst 2, 1) := by decide +kernel
theorem dX11_forces_44 : decode cX11_forces 44 = .ok (.invokevirtual 40, 3) := by decide +kernel
theorem dX11_forces_47 : decode cX11_forces 47 = .ok (.ifCond .eq 5, 3) := by decide +kernel
theorem dX11_forces_50 : decode cX11_forces 50 = .ok (.iconst 0, 1) := by decide +kernel
theorem dX11_forces_51 : decode cX11_forces 51 = .ok (.ireturn, 1) := by decide +kernel
theorem dX11_forces_52 : decode cX11_forces 52 = .ok (.aload_n 0, 1) := by decide +kernel
theorem dX11_forces_53 : decode cX11_forces 53 = .ok (.iload_n 1, 1) := by decide +kernel
theorem dX11_forces_54 : decode cX11_forces 54 = .ok (.invokevirtual 115, 3) := by decide +kernel
theorem dX11_forces_57 : decode cX11_forces 57 = .ok (.aload_n 0, 1) := by decide +kernel
theorem dX11_forces_58 : decode cX11_forces 58 = .ok (.iload_n 2, 1) := by decide +kernel
theorem dX11_forces_59 : decode cX11_forces 59 = .ok (.invokevirtual 213, 3) := by decide +kernel
theorem dX11_forces_62 : decode cX11_forces 62 = .ok (.iconst (-1), 1) := by decide +kernel
theorem dX11_forces_63 : decode cX11_forces 63 = .ok (.ixor, 1) := by decide +kernel
theorem dX11_forces_64 : decode cX11_forces 64 = .ok (.iand, 1) := by decide +kernel
theorem dX11_forces_65 : decode cX11_forces 65 = .ok (.ifCond .ne 7, 3) := by decide +kernel
theorem dX11_forces_68 : decode cX11_forces 68 = .ok (.iconst 1, 1) := by decide +kernel
theorem dX11_forces_69 : decode cX11_forces 69 = .ok (.goto 4, 3) := by decide +kernel
theorem dX11_forces_72 : decode cX11_forces 72 = .ok (.iconst 0, 1) := by decide +kernel
theorem dX11_forces_73 : decode cX11_forces 73 = .ok (.ireturn, 1) := by decide +kernel
theorem dX11_weakIn_0 : decode cX11_weakIn 0 = .ok (.aload_n 0, 1) := by decide +kernel
theorem dX11_weakIn_1 : decode cX11_weakIn 1 = .ok (.getfield 16, 3) := by decide +kernel
theorem dX11_weakIn_4 : decode cX11_weakIn 4 = .ok (.iload_n 3, 1) := by decide +kernel
theorem dX11_weakIn_5 : decode cX11_weakIn 5 = .ok (.invokeinterface 54 2, 5) := by decide +kernel
theorem dX11_weakIn_10 : decode cX11_weakIn 10 = .ok (.checkcast 121, 3) := by decide +kernel
theorem dX11_weakIn_13 : decode cX11_weakIn 13 = .ok (.getfield 124, 3) := by decide +kernel
theorem dX11_weakIn_16 : decode cX11_weakIn 16 = .ok (.invokeinterface 76 1, 5) := by decide +kernel
theorem dX11_weakIn_21 : decode cX11_weakIn 21 = .ok (.astore 4, 2) := by decide +kernel
theorem dX11_weakIn_23 : decode cX11_weakIn 23 = .ok (.aload 4, 2) := by decide +kernel
theorem dX11_weakIn_25 : decode cX11_weakIn 25 = .ok (.invokeinterface 80 1, 5) := by decide +kernel
theorem dX11_weakIn_30 : decode cX11_weakIn 30 = .ok (.ifCond .eq 45, 3) := by decide +kernel
theorem dX11_weakIn_33 : decode cX11_weakIn 33 = .ok (.aload 4, 2) := by decide +kernel
theorem dX11_weakIn_35 : decode cX11_weakIn 35 = .ok (.invokeinterface 86 1, 5) := by decide +kernel
theorem dX11_weakIn_40 : decode cX11_weakIn 40 = .ok (.checkcast 127, 3) := by decide +kernel
theorem dX11_weakIn_43 : decode cX11_weakIn 43 = .ok (.astore 5, 2) := by decide +kernel
theorem dX11_weakIn_45 : decode cX11_weakIn 45 = .ok (.aload_n 0, 1) := by decide +kernel
theorem dX11_weakIn_46 : decode cX11_weakIn 46 = .ok (.iload_n 1, 1) := by decide +kernel
theorem dX11_weakIn_47 : decode cX11_weakIn 47 = .ok (.aload 5, 2) := by decide +kernel
theorem dX11_weakIn_49 : decode cX11_weakIn 49 = .ok (.iconst 1, 1) := by decide +kernel
theorem dX11_weakIn_50 : decode cX11_weakIn 50 = .ok (.iaload, 1) := by decide +kernel
theorem dX11_weakIn_51 : decode cX11_weakIn 51 = .ok (.invokevirtual 69, 3) := by decide +kernel
theorem dX11_weakIn_54 : decode cX11_weakIn 54 = .ok (.ifCond .eq 18, 3) := by decide +kernel
theorem dX11_weakIn_57 : decode cX11_weakIn 57 = .ok (.aload_n 0, 1) := by decide +kernel
theorem dX11_weakIn_58 : decode cX11_weakIn 58 = .ok (.iload_n 1, 1) := by decide +kernel
theorem dX11_weakIn_59 : decode cX11_weakIn 59 = .ok (.iload_n 2, 1) := by decide +kernel
theorem dX11_weakIn_60 : decode cX11_weakIn 60 = .ok (.aload 5, 2) := by decide +kernel
theorem dX11_weakIn_62 : decode cX11_weakIn 62 = .ok (.iconst 0, 1) := by decide +kernel
theorem dX11_weakIn_63 : decode cX11_weakIn 63 = .ok (.iaload, 1) := by decide +kernel
theorem dX11_weakIn_64 : decode cX11_weakIn 64 = .ok (.invokevirtual 215, 3) := by decide +kernel
theorem dX11_weakIn_67 : decode cX11_weakIn 67 = .ok (.ifCond .eq 5, 3) := by decide +kernel
theorem dX11_weakIn_70 : decode cX11_weakIn 70 = .ok (.iconst 1, 1) := by decide +kernel
theorem dX11_weakIn_71 : decode cX11_weakIn 71 = .ok (.ireturn, 1) := by decide +kernel
theorem dX11_weakIn_72 : decode cX11_weakIn 72 = .ok (.goto (-49), 3) := by decide +kernel
theorem dX11_weakIn_75 : decode cX11_weakIn 75 = .ok (.iconst 0, 1) := by decide +kernel
theorem dX11_weakIn_76 : decode cX11_weakIn 76 = .ok (.ireturn, 1) := by decide +kernel
theorem dX11_weakLike_0 : decode cX11_weakLike 0 = .ok (.iconst 1, 1) := by decide +kernel
theorem dX11_weakLike_1 : decode cX11_weakLike 1 = .ok (.istore 4, 2) := by decide +kernel
theorem dX11_weakLike_3 : decode cX11_weakLike 3 = .ok (.iconst 0, 1) := by decide +kernel
theorem dX11_weakLike_4 : decode cX11_weakLike 4 = .ok (.istore 5, 2) := by decide +kernel
theorem dX11_weakLike_6 : decode cX11_weakLike 6 = .ok (.iload 5, 2) := by decide +kernel
theorem dX11_weakLike_8 : decode cX11_weakLike 8 = .ok (.aload_n 0, 1) := by decide +kernel
theorem dX11_weakLike_9 : decode cX11_weakLike 9 = .ok (.getfield 10, 3) := by decide +kernel
theorem dX11_weakLike_12 : decode cX11_weakLike 12 = .ok (.invokeinterface 30 1, 5) := by decide +kernel
theorem dX11_weakLike_17 : decode cX11_weakLike 17 = .ok (.if_icmp .ge 201, 3) := by decide +kernel
theorem dX11_weakLike_20 : decode cX11_weakLike 20 = .ok (.iload 4, 2) := by decide +kernel
theorem dX11_weakLike_22 : decode cX11_weakLike 22 = .ok (.ifCond .eq 196, 3) := by decide +kernel
theorem dX11_weakLike_25 : decode cX11_weakLike 25 = .ok (.aload_n 0, 1) := by decide +kernel
theorem dX11_weakLike_26 : decode cX11_weakLike 26 = .ok (.iload 5, 2) := by decide +kernel
theorem dX11_weakLike_28 : decode cX11_weakLike 28 = .ok (.iload_n 1, 1) := by decide +kernel
theorem dX11_weakLike_29 : decode cX11_weakLike 29 = .ok (.invokevirtual 69, 3) := by decide +kernel
theorem dX11_weakLike_32 : decode cX11_weakLike 32 = .ok (.ifCond .ne 6, 3) := by decide +kernel
theorem dX11_weakLike_35 : decode cX11_weakLike 35 = .ok (.goto 177, 3) := by decide +kernel
theorem dX11_weakLike_38 : decode cX11_weakLike 38 = .ok (.aload_n 0, 1) := by decide +kernel
theorem dX11_weakLike_39 : decode cX11_weakLike 39 = .ok (.getfield 16, 3) := by decide +kernel
theorem dX11_weakLike_42 : decode cX11_weakLike 42 = .ok (.iload_n 2, 1) := by decide +kernel
theorem dX11_weakLike_43 : decode cX11_weakLike 43 = .ok (.invokeinterface 54 2, 5) := by decide +kernel
theorem dX11_weakLike_48 : decode cX11_weakLike 48 = .ok (.checkcast 121, 3) := by decide +kernel
theorem dX11_weakLike_51 : decode cX11_weakLike 51 = .ok (.getfield 124, 3) := by decide +kernel
theorem dX11_weakLike_54 : decode cX11_weakLike 54 = .ok (.invokeinterface 76 1, 5) := by decide +kernel
theorem dX11_weakLike_59 : decode cX11_weakLike 59 = .ok (.astore 6, 2) := by decide +kernel
theorem dX11_weakLike_61 : decode cX11_weakLike 61 = .ok (.aload 6, 2) := by decide +kernel
theorem dX11_weakLike_63 : decode cX11_weakLike 63 = .ok (.invokeinterface 80 1, 5) := by decide +kernel
theorem dX11_weakLike_68 : decode cX11_weakLike 68 = .ok (.ifCond .eq 57, 3) := by decide +kernel
theorem dX11_weakLike_71 : decode cX11_weakLike 71 = .ok (.aload 6, 2) := by decide +kernel
theorem dX11_weakLike_73 : decode cX11_weakLike 73 = .ok (.invokeinterface 86 1, 5) := by decide +kernel
theorem dX11_weakLike_78 : decode cX11_weakLike 78 = .ok (.checkcast 127, 3) := by decide +kernel
theorem dX11_weakLike_81 : decode cX11_weakLike 81 = .ok (.astore 7, 2) := by decide +kernel
theorem dX11_weakLike_83 : decode cX11_weakLike 83 = .ok (.iload 4, 2) := by decide +kernel
theorem dX11_weakLike_85 : decode cX11_weakLike 85 = .ok (.ifCond .eq 34, 3) := by decide +kernel
theorem dX11_weakLike_88 : decode cX11_weakLike 88 = .ok (.aload_n 0, 1) := by decide +kernel
theorem dX11_weakLike_89 : decode cX11_weakLike 89 = .ok (.iload 5, 2) := by decide +kernel
theorem dX11_weakLike_91 : decode cX11_weakLike 91 = .ok (.aload 7, 2) := by decide +kernel
theorem dX11_weakLike_93 : decode cX11_weakLike 93 = .ok (.iconst 1, 1) := by decide +kernel
theorem dX11_weakLike_94 : decode cX11_weakLike 94 = .ok (.iaload, 1) := by decide +kernel
theorem dX11_weakLike_95 : decode cX11_weakLike 95 = .ok (.invokevirtual 69, 3) := by decide +kernel
theorem dX11_weakLike_98 : decode cX11_weakLike 98 = .ok (.ifCond .eq 17, 3) := by decide +kernel
theorem dX11_weakLike_101 : decode cX11_weakLike 101 = .ok (.aload_n 0, 1) := by decide +kernel
theorem dX11_weakLike_102 : decode cX11_weakLike 102 = .ok (.iload 5, 2) := by decide +kernel
theorem dX11_weakLike_104 : decode cX11_weakLike 104 = .ok (.aload 7, 2) := by decide +kernel
theorem dX11_weakLike_106 : decode cX11_weakLike 106 = .ok (.iconst 0, 1) := by decide +kernel
theorem dX11_weakLike_107 : decode cX11_weakLike 107 = .ok (.iaload, 1) := by decide +kernel
theorem dX11_weakLike_108 : decode cX11_weakLike 108 = .ok (.iload_n 3, 1) := by decide +kernel
theorem dX11_weakLike_109 : decode cX11_weakLike 109 = .ok (.invokevirtual 218, 3) := by decide +kernel
theorem dX11_weakLike_112 : decode cX11_weakLike 112 = .ok (.ifCond .eq 7, 3) := by decide +kernel
theorem dX11_weakLike_115 : decode cX11_weakLike 115 = .ok (.iconst 1, 1) := by decide +kernel
theorem dX11_weakLike_116 : decode cX11_weakLike 116 = .ok (.goto 4, 3) := by decide +kernel
theorem dX11_weakLike_119 : decode cX11_weakLike 119 = .ok (.iconst 0, 1) := by decide +kernel
theorem dX11_weakLike_120 : decode cX11_weakLike 120 = .ok (.istore 4, 2) := by decide +kernel
theorem dX11_weakLike_122 : decode cX11_weakLike 122 = .ok (.goto (-61), 3) := by decide +kernel
theorem dX11_weakLike_125 : decode cX11_weakLike 125 = .ok (.aload_n 0, 1) := by decide +kernel
theorem dX11_weakLike_126 : decode cX11_weakLike 126 = .ok (.getfield 16, 3) := by decide +kernel
theorem dX11_weakLike_129 : decode cX11_weakLike 129 = .ok (.iload_n 3, 1) := by decide +kernel
theorem dX11_weakLike_130 : decode cX11_weakLike 130 = .ok (.invokeinterface 54 2, 5) := by decide +kernel
theorem dX11_weakLike_135 : decode cX11_weakLike 135 = .ok (.checkcast 121, 3) := by decide +kernel
theorem dX11_weakLike_138 : decode cX11_weakLike 138 = .ok (.getfield 124, 3) := by decide +kernel
theorem dX11_weakLike_141 : decode cX11_weakLike 141 = .ok (.invokeinterface 76 1, 5) := by decide +kernel
theorem dX11_weakLike_146 : decode cX11_weakLike 146 = .ok (.astore 6, 2) := by decide +kernel
theorem dX11_weakLike_148 : decode cX11_weakLike 148 = .ok (.aload 6, 2) := by decide +kernel
theorem dX11_weakLike_150 : decode cX11_weakLike 150 = .ok (.invokeinterface 80 1, 5) := by decide +kernel
theorem dX11_weakLike_155 : decode cX11_weakLike 155 = .ok (.ifCond .eq 57, 3) := by decide +kernel
theorem dX11_weakLike_158 : decode cX11_weakLike 158 = .ok (.aload 6, 2) := by decide +kernel
theorem dX11_weakLike_160 : decode cX11_weakLike 160 = .ok (.invokeinterface 86 1, 5) := by decide +kernel
theorem dX11_weakLike_165 : decode cX11_weakLike 165 = .ok (.checkcast 127, 3) := by decide +kernel
theorem dX11_weakLike_168 : decode cX11_weakLike 168 = .ok (.astore 7, 2) := by decide +kernel
theorem dX11_weakLike_170 : decode cX11_weakLike 170 = .ok (.iload 4, 2) := by decide +kernel
theorem dX11_weakLike_172 : decode cX11_weakLike 172 = .ok (.ifCond .eq 34, 3) := by decide +kernel
theorem dX11_weakLike_175 : decode cX11_weakLike 175 = .ok (.aload_n 0, 1) := by decide +kernel
theorem dX11_weakLike_176 : decode cX11_weakLike 176 = .ok (.iload 5, 2) := by decide +kernel
theorem dX11_weakLike_178 : decode cX11_weakLike 178 = .ok (.aload 7, 2) := by decide +kernel
theorem dX11_weakLike_180 : decode cX11_weakLike 180 = .ok (.iconst 1, 1) := by decide +kernel
theorem dX11_weakLike_181 : decode cX11_weakLike 181 = .ok (.iaload, 1) := by decide +kernel
theorem dX11_weakLike_182 : decode cX11_weakLike 182 = .ok (.invokevirtual 69, 3) := by decide +kernel
theorem dX11_weakLike_185 : decode cX11_weakLike 185 = .ok (.ifCond .eq 17, 3) := by decide +kernel
theorem dX11_weakLike_188 : decode cX11_weakLike 188 = .ok (.aload_n 0, 1) := by decide +kernel
theorem dX11_weakLike_189 : decode cX11_weakLike 189 = .ok (.iload 5, 2) := by decide +kernel
theorem dX11_weakLike_191 : decode cX11_weakLike 191 = .ok (.aload 7, 2) := by decide +kernel
theorem dX11_weakLike_193 : decode cX11_weakLike 193 = .ok (.iconst 0, 1) := by decide +kernel
theorem dX11_weakLike_194 : decode cX11_weakLike 194 = .ok (.iaload, 1) := by decide +kernel
theorem dX11_weakLike_195 : decode cX11_weakLike 195 = .ok (.iload_n 2, 1) := by decide +kernel
theorem dX11_weakLike_196 : decode cX11_weakLike 196 = .ok (.invokevirtual 218, 3) := by decide +kernel
theorem dX11_weakLike_199 : decode cX11_weakLike 199 = .ok (.ifCond .eq 7, 3) := by decide +kernel
theorem dX11_weakLike_202 : decode cX11_weakLike 202 = .ok (.iconst 1, 1) := by decide +kernel
theorem dX11_weakLike_203 : decode cX11_weakLike 203 = .ok (.goto 4, 3) := by decide +kernel
theorem dX11_weakLike_206 : decode cX11_weakLike 206 = .ok (.iconst 0, 1) := by decide +kernel
theorem dX11_weakLike_207 : decode cX11_weakLike 207 = .ok (.istore 4, 2) := by decide +kernel
theorem dX11_weakLike_209 : decode cX11_weakLike 209 = .ok (.goto (-61), 3) := by decide +kernel
theorem dX11_weakLike_212 : decode cX11_weakLike 212 = .ok (.iinc 5 1, 3) := by decide +kernel
theorem dX11_weakLike_215 : decode cX11_weakLike 215 = .ok (.goto (-209), 3) := by decide +kernel
theorem dX11_weakLike_218 : decode cX11_weakLike 218 = .ok (.iload 4, 2) := by decide +kernel
theorem dX11_weakLike_220 : decode cX11_weakLike 220 = .ok (.ireturn, 1) := by decide +kernel
theorem dX11_nameOf_0 : decode cX11_nameOf 0 = .ok (.iload_n 0, 1) := by decide +kernel
theorem dX11_nameOf_1 : decode cX11_nameOf 1 = .ok (.bipush 100, 2) := by decide +kernel
theorem dX11_nameOf_3 : decode cX11_nameOf 3 = .ok (.if_icmp .lt 12, 3) := by decide +kernel
theorem dX11_nameOf_6 : decode cX11_nameOf 6 = .ok (.aload_n 1, 1) := by decide +kernel
theorem dX11_nameOf_7 : decode cX11_nameOf 7 = .ok (.iload_n 0, 1) := by decide +kernel
theorem dX11_nameOf_8 : decode cX11_nameOf 8 = .ok (.bipush 100, 2) := by decide +kernel
theorem dX11_nameOf_10 : decode cX11_nameOf 10 = .ok (.isub, 1) := by decide +kernel
theorem dX11_nameOf_11 : decode cX11_nameOf 11 = .ok (.iaload, 1) := by decide +kernel
theorem dX11_nameOf_12 : decode cX11_nameOf 12 = .ok (.goto 4, 3) := by decide +kernel
theorem dX11_nameOf_15 : decode cX11_nameOf 15 = .ok (.iload_n 0, 1) := by decide +kernel
theorem dX11_nameOf_16 : decode cX11_nameOf 16 = .ok (.ireturn, 1) := by decide +kernel
theorem dX11_with_0 : decode cX11_with 0 = .ok (.aload_n 0, 1) := by decide +kernel
theorem dX11_with_1 : decode cX11_with 1 = .ok (.invokevirtual 210, 3) := by decide +kernel
theorem dX11_with_4 : decode cX11_with 4 = .ok (.checkcast 127, 3) := by decide +kernel
theorem dX11_with_7 : decode cX11_with 7 = .ok (.astore_n 3, 1) := by decide +kernel
theorem dX11_with_8 : decode cX11_with 8 = .ok (.aload_n 3, 1) := by decide +kernel
theorem dX11_with_9 : decode cX11_with 9 = .ok (.iload_n 1, 1) := by decide +kernel
theorem dX11_with_10 : decode cX11_with 10 = .ok (.iload_n 2, 1) := by decide +kernel
theorem dX11_with_11 : decode cX11_with 11 = .ok (.iastore, 1) := by decide +kernel
theorem dX11_with_12 : decode cX11_with 12 = .ok (.aload_n 3, 1) := by decide +kernel
theorem dX11_with_13 : decode cX11_with 13 = .ok (.areturn, 1) := by decide +kernel
theorem dX11_weak_0 : decode cX11_weak 0 = .ok (.aload_n 0, 1) := by decide +kernel
theorem dX11_weak_1 : decode cX11_weak 1 = .ok (.getfield 19, 3) := by decide +kernel
theorem dX11_weak_4 : decode cX11_weak 4 = .ok (.iload_n 2, 1) := by decide +kernel
theorem dX11_weak_5 : decode cX11_weak 5 = .ok (.invokeinterface 54 2, 5) := by decide +kernel
theorem dX11_weak_10 : decode cX11_weak 10 = .ok (.checkcast 161, 3) := by decide +kernel
theorem dX11_weak_13 : decode cX11_weak 13 = .ok (.astore 4, 2) := by decide +kernel
theorem dX11_weak_15 : decode cX11_weak 15 = .ok (.aload 4, 2) := by decide +kernel
theorem dX11_weak_17 : decode cX11_weak 17 = .ok (.getfield 181, 3) := by decide +kernel
theorem dX11_weak_20 : decode cX11_weak 20 = .ok (.lookupswitch 361 #[(61, 84), (65, 228), (97, 108), (101, 60), (110, 176), (111, 142)], 60) := by decide +kernel
theorem dX11_weak_80 : decode cX11_weak 80 = .ok (.aload_n 0, 1) := by decide +kernel
theorem dX11_weak_81 : decode cX11_weak 81 = .ok (.iload_n 1, 1) := by decide +kernel
theorem dX11_weak_82 : decode cX11_weak 82 = .ok (.aload 4, 2) := by decide +kernel
theorem dX11_weak_84 : decode cX11_weak 84 = .ok (.getfield 185, 3) := by decide +kernel
theorem dX11_weak_87 : decode cX11_weak 87 = .ok (.aload_n 3, 1) := by decide +kernel
theorem dX11_weak_88 : decode cX11_weak 88 = .ok (.invokestatic 221, 3) := by decide +kernel
theorem dX11_weak_91 : decode cX11_weak 91 = .ok (.aload 4, 2) := by decide +kernel
theorem dX11_weak_93 : decode cX11_weak 93 = .ok (.getfield 191, 3) := by decide +kernel
theorem dX11_weak_96 : decode cX11_weak 96 = .ok (.aload_n 3, 1) := by decide +kernel
theorem dX11_weak_97 : decode cX11_weak 97 = .ok (.invokestatic 221, 3) := by decide +kernel
theorem dX11_weak_100 : decode cX11_weak 100 = .ok (.invokevirtual 218, 3) := by decide +kernel
theorem dX11_weak_103 : decode cX11_weak 103 = .ok (.ireturn, 1) := by decide +kernel
theorem dX11_weak_104 : decode cX11_weak 104 = .ok (.aload_n 0, 1) := by decide +kernel
theorem dX11_weak_105 : decode cX11_weak 105 = .ok (.iload_n 1, 1) := by decide +kernel
theorem dX11_weak_106 : decode cX11_weak 106 = .ok (.aload 4, 2) := by decide +kernel
theorem dX11_weak_108 : decode cX11_weak 108 = .ok (.getfield 185, 3) := by decide +kernel
theorem dX11_weak_111 : decode cX11_weak 111 = .ok (.aload_n 3, 1) := by decide +kernel
theorem dX11_weak_112 : decode cX11_weak 112 = .ok (.invokestatic 221, 3) := by decide +kernel
theorem dX11_weak_115 : decode cX11_weak 115 = .ok (.aload 4, 2) := by decide +kernel
theorem dX11_weak_117 : decode cX11_weak 117 = .ok (.getfield 191, 3) := by decide +kernel
theorem dX11_weak_120 : decode cX11_weak 120 = .ok (.aload_n 3, 1) := by decide +kernel
theorem dX11_weak_121 : decode cX11_weak 121 = .ok (.invokestatic 221, 3) := by decide +kernel
theorem dX11_weak_124 : decode cX11_weak 124 = .ok (.invokevirtual 215, 3) := by decide +kernel
theorem dX11_weak_127 : decode cX11_weak 127 = .ok (.ireturn, 1) := by decide +kernel
theorem dX11_weak_128 : decode cX11_weak 128 = .ok (.aload_n 0, 1) := by decide +kernel
theorem dX11_weak_129 : decode cX11_weak 129 = .ok (.iload_n 1, 1) := by decide +kernel
theorem dX11_weak_130 : decode cX11_weak 130 = .ok (.aload 4, 2) := by decide +kernel
theorem dX11_weak_132 : decode cX11_weak 132 = .ok (.getfield 185, 3) := by decide +kernel
theorem dX11_weak_135 : decode cX11_weak 135 = .ok (.aload_n 3, 1) := by decide +kernel
theorem dX11_weak_136 : decode cX11_weak 136 = .ok (.invokevirtual 225, 3) := by decide +kernel
theorem dX11_weak_139 : decode cX11_weak 139 = .ok (.ifCond .eq 21, 3) := by decide +kernel
theorem dX11_weak_142 : decode cX11_weak 142 = .ok (.aload_n 0, 1) := by decide +kernel
theorem dX11_weak_143 : decode cX11_weak 143 = .ok (.iload_n 1, 1) := by decide +kernel
theorem dX11_weak_144 : decode cX11_weak 144 = .ok (.aload 4, 2) := by decide +kernel
theorem dX11_weak_146 : decode cX11_weak 146 = .ok (.getfield 191, 3) := by decide +kernel
theorem dX11_weak_149 : decode cX11_weak 149 = .ok (.aload_n 3, 1) := by decide +kernel
theorem dX11_weak_150 : decode cX11_weak 150 = .ok (.invokevirtual 225, 3) := by decide +kernel
theorem dX11_weak_153 : decode cX11_weak 153 = .ok (.ifCond .eq 7, 3) := by decide +kernel
theorem dX11_weak_156 : decode cX11_weak 156 = .ok (.iconst 1, 1) := by decide +kernel
theorem dX11_weak_157 : decode cX11_weak 157 = .ok (.goto 4, 3) := by decide +kernel
theorem dX11_weak_160 : decode cX11_weak 160 = .ok (.iconst 0, 1) := by decide +kernel
theorem dX11_weak_161 : decode cX11_weak 161 = .ok (.ireturn, 1) := by decide +kernel
theorem dX11_weak_162 : decode cX11_weak 162 = .ok (.aload_n 0, 1) := by decide +kernel
theorem dX11_weak_163 : decode cX11_weak 163 = .ok (.iload_n 1, 1) := by decide +kernel
theorem dX11_weak_164 : decode cX11_weak 164 = .ok (.aload 4, 2) := by decide +kernel
theorem dX11_weak_166 : decode cX11_weak 166 = .ok (.getfield 185, 3) := by decide +kernel
theorem dX11_weak_169 : decode cX11_weak 169 = .ok (.aload_n 3, 1) := by decide +kernel
theorem dX11_weak_170 : decode cX11_weak 170 = .ok (.invokevirtual 225, 3) := by decide +kernel
theorem dX11_weak_173 : decode cX11_weak 173 = .ok (.ifCond .ne 17, 3) := by decide +kernel
theorem dX11_weak_176 : decode cX11_weak 176 = .ok (.aload_n 0, 1) := by decide +kernel
theorem dX11_weak_177 : decode cX11_weak 177 = .ok (.iload_n 1, 1) := by decide +kernel
theorem dX11_weak_178 : decode cX11_weak 178 = .ok (.aload 4, 2) := by decide +kernel
theorem dX11_weak_180 : decode cX11_weak 180 = .ok (.getfield 191, 3) := by decide +kernel
theorem dX11_weak_183 : decode cX11_weak 183 = .ok (.aload_n 3, 1) := by decide +kernel
theorem dX11_weak_184 : decode cX11_weak 184 = .ok (.invokevirtual 225, 3) := by decide +kernel
theorem dX11_weak_187 : decode cX11_weak 187 = .ok (.ifCond .eq 7, 3) := by decide +kernel
theorem dX11_weak_190 : decode cX11_weak 190 = .ok (.iconst 1, 1) := by decide +kernel
theorem dX11_weak_191 : decode cX11_weak 191 = .ok (.goto 4, 3) := by decide +kernel
theorem dX11_weak_194 : decode cX11_weak 194 = .ok (.iconst 0, 1) := by decide +kernel
theorem dX11_weak_195 : decode cX11_weak 195 = .ok (.ireturn, 1) := by decide +kernel
theorem dX11_weak_196 : decode cX11_weak 196 = .ok (.iconst 0, 1) := by decide +kernel
theorem dX11_weak_197 : decode cX11_weak 197 = .ok (.istore 5, 2) := by decide +kernel
theorem dX11_weak_199 : decode cX11_weak 199 = .ok (.iload 5, 2) := by decide +kernel
theorem dX11_weak_201 : decode cX11_weak 201 = .ok (.aload_n 0, 1) := by decide +kernel
theorem dX11_weak_202 : decode cX11_weak 202 = .ok (.getfield 10, 3) := by decide +kernel
theorem dX11_weak_205 : decode cX11_weak 205 = .ok (.invokeinterface 30 1, 5) := by decide +kernel
theorem dX11_weak_210 : decode cX11_weak 210 = .ok (.if_icmp .ge 36, 3) := by decide +kernel
theorem dX11_weak_213 : decode cX11_weak 213 = .ok (.aload_n 0, 1) := by decide +kernel
theorem dX11_weak_214 : decode cX11_weak 214 = .ok (.iload 5, 2) := by decide +kernel
theorem dX11_weak_216 : decode cX11_weak 216 = .ok (.iload_n 1, 1) := by decide +kernel
theorem dX11_weak_217 : decode cX11_weak 217 = .ok (.invokevirtual 69, 3) := by decide +kernel
theorem dX11_weak_220 : decode cX11_weak 220 = .ok (.ifCond .eq 20, 3) := by decide +kernel
theorem dX11_weak_223 : decode cX11_weak 223 = .ok (.aload_n 0, 1) := by decide +kernel
theorem dX11_weak_224 : decode cX11_weak 224 = .ok (.iload 5, 2) := by decide +kernel
theorem dX11_weak_226 : decode cX11_weak 226 = .ok (.aload 4, 2) := by decide +kernel
theorem dX11_weak_228 : decode cX11_weak 228 = .ok (.getfield 185, 3) := by decide +kernel
theorem dX11_weak_231 : decode cX11_weak 231 = .ok (.aload_n 3, 1) := by decide +kernel
theorem dX11_weak_232 : decode cX11_weak 232 = .ok (.invokevirtual 225, 3) := by decide +kernel
theorem dX11_weak_235 : decode cX11_weak 235 = .ok (.ifCond .eq 5, 3) := by decide +kernel
theorem dX11_weak_238 : decode cX11_weak 238 = .ok (.iconst 0, 1) := by decide +kernel
theorem dX11_weak_239 : decode cX11_weak 239 = .ok (.ireturn, 1) := by decide +kernel
theorem dX11_weak_240 : decode cX11_weak 240 = .ok (.iinc 5 1, 3) := by decide +kernel
theorem dX11_weak_243 : decode cX11_weak 243 = .ok (.goto (-44), 3) := by decide +kernel
theorem dX11_weak_246 : decode cX11_weak 246 = .ok (.iconst 1, 1) := by decide +kernel
theorem dX11_weak_247 : decode cX11_weak 247 = .ok (.ireturn, 1) := by decide +kernel
theorem dX11_weak_248 : decode cX11_weak 248 = .ok (.aload_n 0, 1) := by decide +kernel
theorem dX11_weak_249 : decode cX11_weak 249 = .ok (.getfield 16, 3) := by decide +kernel
theorem dX11_weak_252 : decode cX11_weak 252 = .ok (.aload 4, 2) := by decide +kernel
theorem dX11_weak_254 : decode cX11_weak 254 = .ok (.getfield 200, 3) := by decide +kernel
theorem dX11_weak_257 : decode cX11_weak 257 = .ok (.aload_n 3, 1) := by decide +kernel
theorem dX11_weak_258 : decode cX11_weak 258 = .ok (.invokestatic 221, 3) := by decide +kernel
theorem dX11_weak_261 : decode cX11_weak 261 = .ok (.invokeinterface 54 2, 5) := by decide +kernel
theorem dX11_weak_266 : decode cX11_weak 266 = .ok (.checkcast 121, 3) := by decide +kernel
theorem dX11_weak_269 : decode cX11_weak 269 = .ok (.getfield 124, 3) := by decide +kernel
theorem dX11_weak_272 : decode cX11_weak 272 = .ok (.invokeinterface 76 1, 5) := by decide +kernel
theorem dX11_weak_277 : decode cX11_weak 277 = .ok (.astore 5, 2) := by decide +kernel
theorem dX11_weak_279 : decode cX11_weak 279 = .ok (.aload 5, 2) := by decide +kernel
theorem dX11_weak_281 : decode cX11_weak 281 = .ok (.invokeinterface 80 1, 5) := by decide +kernel
theorem dX11_weak_286 : decode cX11_weak 286 = .ok (.ifCond .eq 93, 3) := by decide +kernel
theorem dX11_weak_289 : decode cX11_weak 289 = .ok (.aload 5, 2) := by decide +kernel
theorem dX11_weak_291 : decode cX11_weak 291 = .ok (.invokeinterface 86 1, 5) := by decide +kernel
theorem dX11_weak_296 : decode cX11_weak 296 = .ok (.checkcast 127, 3) := by decide +kernel
theorem dX11_weak_299 : decode cX11_weak 299 = .ok (.astore 6, 2) := by decide +kernel
theorem dX11_weak_301 : decode cX11_weak 301 = .ok (.iconst 0, 1) := by decide +kernel
theorem dX11_weak_302 : decode cX11_weak 302 = .ok (.istore 7, 2) := by decide +kernel
theorem dX11_weak_304 : decode cX11_weak 304 = .ok (.iload 7, 2) := by decide +kernel
theorem dX11_weak_306 : decode cX11_weak 306 = .ok (.aload_n 0, 1) := by decide +kernel
theorem dX11_weak_307 : decode cX11_weak 307 = .ok (.getfield 10, 3) := by decide +kernel
theorem dX11_weak_310 : decode cX11_weak 310 = .ok (.invokeinterface 30 1, 5) := by decide +kernel
theorem dX11_weak_315 : decode cX11_weak 315 = .ok (.if_icmp .ge 61, 3) := by decide +kernel
theorem dX11_weak_318 : decode cX11_weak 318 = .ok (.aload_n 0, 1) := by decide +kernel
theorem dX11_weak_319 : decode cX11_weak 319 = .ok (.iload 7, 2) := by decide +kernel
theorem dX11_weak_321 : decode cX11_weak 321 = .ok (.iload_n 1, 1) := by decide +kernel
theorem dX11_weak_322 : decode cX11_weak 322 = .ok (.invokevirtual 69, 3) := by decide +kernel
theorem dX11_weak_325 : decode cX11_weak 325 = .ok (.ifCond .eq 45, 3) := by decide +kernel
theorem dX11_weak_328 : decode cX11_weak 328 = .ok (.aload_n 0, 1) := by decide +kernel
theorem dX11_weak_329 : decode cX11_weak 329 = .ok (.iload 7, 2) := by decide +kernel
theorem dX11_weak_331 : decode cX11_weak 331 = .ok (.aload 6, 2) := by decide +kernel
theorem dX11_weak_333 : decode cX11_weak 333 = .ok (.iconst 1, 1) := by decide +kernel
theorem dX11_weak_334 : decode cX11_weak 334 = .ok (.iaload, 1) := by decide +kernel
theorem dX11_weak_335 : decode cX11_weak 335 = .ok (.invokevirtual 69, 3) := by decide +kernel
theorem dX11_weak_338 : decode cX11_weak 338 = .ok (.ifCond .eq 32, 3) := by decide +kernel
theorem dX11_weak_341 : decode cX11_weak 341 = .ok (.aload_n 0, 1) := by decide +kernel
theorem dX11_weak_342 : decode cX11_weak 342 = .ok (.iload 7, 2) := by decide +kernel
theorem dX11_weak_344 : decode cX11_weak 344 = .ok (.aload 4, 2) := by decide +kernel
theorem dX11_weak_346 : decode cX11_weak 346 = .ok (.getfield 185, 3) := by decide +kernel
theorem dX11_weak_349 : decode cX11_weak 349 = .ok (.aload_n 3, 1) := by decide +kernel
theorem dX11_weak_350 : decode cX11_weak 350 = .ok (.aload 4, 2) := by decide +kernel
theorem dX11_weak_352 : decode cX11_weak 352 = .ok (.getfield 197, 3) := by decide +kernel
theorem dX11_weak_355 : decode cX11_weak 355 = .ok (.aload 6, 2) := by decide +kernel
theorem dX11_weak_357 : decode cX11_weak 357 = .ok (.iconst 0, 1) := by decide +kernel
theorem dX11_weak_358 : decode cX11_weak 358 = .ok (.iaload, 1) := by decide +kernel
theorem dX11_weak_359 : decode cX11_weak 359 = .ok (.invokestatic 228, 3) := by decide +kernel
theorem dX11_weak_362 : decode cX11_weak 362 = .ok (.invokevirtual 225, 3) := by decide +kernel
theorem dX11_weak_365 : decode cX11_weak 365 = .ok (.ifCond .ne 5, 3) := by decide +kernel
theorem dX11_weak_368 : decode cX11_weak 368 = .ok (.iconst 0, 1) := by decide +kernel
theorem dX11_weak_369 : decode cX11_weak 369 = .ok (.ireturn, 1) := by decide +kernel
theorem dX11_weak_370 : decode cX11_weak 370 = .ok (.iinc 7 1, 3) := by decide +kernel
theorem dX11_weak_373 : decode cX11_weak 373 = .ok (.goto (-69), 3) := by decide +kernel
theorem dX11_weak_376 : decode cX11_weak 376 = .ok (.goto (-97), 3) := by decide +kernel
theorem dX11_weak_379 : decode cX11_weak 379 = .ok (.iconst 1, 1) := by decide +kernel
theorem dX11_weak_380 : decode cX11_weak 380 = .ok (.ireturn, 1) := by decide +kernel
theorem dX11_weak_381 : decode cX11_weak 381 = .ok (.aload_n 0, 1) := by decide +kernel
theorem dX11_weak_382 : decode cX11_weak 382 = .ok (.getfield 16, 3) := by decide +kernel
theorem dX11_weak_385 : decode cX11_weak 385 = .ok (.aload 4, 2) := by decide +kernel
theorem dX11_weak_387 : decode cX11_weak 387 = .ok (.getfield 200, 3) := by decide +kernel
theorem dX11_weak_390 : decode cX11_weak 390 = .ok (.aload_n 3, 1) := by decide +kernel
theorem dX11_weak_391 : decode cX11_weak 391 = .ok (.invokestatic 221, 3) := by decide +kernel
theorem dX11_weak_394 : decode cX11_weak 394 = .ok (.invokeinterface 54 2, 5) := by decide +kernel
theorem dX11_weak_399 : decode cX11_weak 399 = .ok (.checkcast 121, 3) := by decide +kernel
theorem dX11_weak_402 : decode cX11_weak 402 = .ok (.getfield 124, 3) := by decide +kernel
theorem dX11_weak_405 : decode cX11_weak 405 = .ok (.invokeinterface 76 1, 5) := by decide +kernel
theorem dX11_weak_410 : decode cX11_weak 410 = .ok (.astore 5, 2) := by decide +kernel
theorem dX11_weak_412 : decode cX11_weak 412 = .ok (.aload 5, 2) := by decide +kernel
theorem dX11_weak_414 : decode cX11_weak 414 = .ok (.invokeinterface 80 1, 5) := by decide +kernel
theorem dX11_weak_419 : decode cX11_weak 419 = .ok (.ifCond .eq 58, 3) := by decide +kernel
theorem dX11_weak_422 : decode cX11_weak 422 = .ok (.aload 5, 2) := by decide +kernel
theorem dX11_weak_424 : decode cX11_weak 424 = .ok (.invokeinterface 86 1, 5) := by decide +kernel
theorem dX11_weak_429 : decode cX11_weak 429 = .ok (.checkcast 127, 3) := by decide +kernel
theorem dX11_weak_432 : decode cX11_weak 432 = .ok (.astore 6, 2) := by decide +kernel
theorem dX11_weak_434 : decode cX11_weak 434 = .ok (.aload_n 0, 1) := by decide +kernel
theorem dX11_weak_435 : decode cX11_weak 435 = .ok (.iload_n 1, 1) := by decide +kernel
theorem dX11_weak_436 : decode cX11_weak 436 = .ok (.aload 6, 2) := by decide +kernel
theorem dX11_weak_438 : decode cX11_weak 438 = .ok (.iconst 1, 1) := by decide +kernel
theorem dX11_weak_439 : decode cX11_weak 439 = .ok (.iaload, 1) := by decide +kernel
theorem dX11_weak_440 : decode cX11_weak 440 = .ok (.invokevirtual 69, 3) := by decide +kernel
theorem dX11_weak_443 : decode cX11_weak 443 = .ok (.ifCond .eq 31, 3) := by decide +kernel
theorem dX11_weak_446 : decode cX11_weak 446 = .ok (.aload_n 0, 1) := by decide +kernel
theorem dX11_weak_447 : decode cX11_weak 447 = .ok (.iload_n 1, 1) := by decide +kernel
theorem dX11_weak_448 : decode cX11_weak 448 = .ok (.aload 4, 2) := by decide +kernel
theorem dX11_weak_450 : decode cX11_weak 450 = .ok (.getfield 185, 3) := by decide +kernel
theorem dX11_weak_453 : decode cX11_weak 453 = .ok (.aload_n 3, 1) := by decide +kernel
theorem dX11_weak_454 : decode cX11_weak 454 = .ok (.aload 4, 2) := by decide +kernel
theorem dX11_weak_456 : decode cX11_weak 456 = .ok (.getfield 197, 3) := by decide +kernel
theorem dX11_weak_459 : decode cX11_weak 459 = .ok (.aload 6, 2) := by decide +kernel
theorem dX11_weak_461 : decode cX11_weak 461 = .ok (.iconst 0, 1) := by decide +kernel
theorem dX11_weak_462 : decode cX11_weak 462 = .ok (.iaload, 1) := by decide +kernel
theorem dX11_weak_463 : decode cX11_weak 463 = .ok (.invokestatic 228, 3) := by decide +kernel
theorem dX11_weak_466 : decode cX11_weak 466 = .ok (.invokevirtual 225, 3) := by decide +kernel
theorem dX11_weak_469 : decode cX11_weak 469 = .ok (.ifCond .eq 5, 3) := by decide +kernel
theorem dX11_weak_472 : decode cX11_weak 472 = .ok (.iconst 1, 1) := by decide +kernel
theorem dX11_weak_473 : decode cX11_weak 473 = .ok (.ireturn, 1) := by decide +kernel
theorem dX11_weak_474 : decode cX11_weak 474 = .ok (.goto (-62), 3) := by decide +kernel
theorem dX11_weak_477 : decode cX11_weak 477 = .ok (.iconst 0, 1) := by decide +kernel
theorem dX11_weak_478 : decode cX11_weak 478 = .ok (.ireturn, 1) := by decide +kernel
theorem dX11_weakly_0 : decode cX11_weakly 0 = .ok (.aload_n 0, 1) := by decide +kernel
theorem dX11_weakly_1 : decode cX11_weakly 1 = .ok (.aload_n 0, 1) := by decide +kernel
theorem dX11_weakly_2 : decode cX11_weakly 2 = .ok (.iload_n 1, 1) := by decide +kernel
theorem dX11_weakly_3 : decode cX11_weakly 3 = .ok (.invokevirtual 65, 3) := by decide +kernel
theorem dX11_weakly_6 : decode cX11_weakly 6 = .ok (.ifCond .eq 15, 3) := by decide +kernel
theorem dX11_weakly_9 : decode cX11_weakly 9 = .ok (.aload_n 0, 1) := by decide +kernel
theorem dX11_weakly_10 : decode cX11_weakly 10 = .ok (.iload_n 2, 1) := by decide +kernel
theorem dX11_weakly_11 : decode cX11_weakly 11 = .ok (.invokevirtual 175, 3) := by decide +kernel
theorem dX11_weakly_14 : decode cX11_weakly 14 = .ok (.ifCond .eq 7, 3) := by decide +kernel
theorem dX11_weakly_17 : decode cX11_weakly 17 = .ok (.iconst 1, 1) := by decide +kernel
theorem dX11_weakly_18 : decode cX11_weakly 18 = .ok (.goto 4, 3) := by decide +kernel
theorem dX11_weakly_21 : decode cX11_weakly 21 = .ok (.iconst 0, 1) := by decide +kernel
theorem dX11_weakly_22 : decode cX11_weakly 22 = .ok (.iconst 1, 1) := by decide +kernel
theorem dX11_weakly_23 : decode cX11_weakly 23 = .ok (.invokevirtual 40, 3) := by decide +kernel
theorem dX11_weakly_26 : decode cX11_weakly 26 = .ok (.ifCond .ne 24, 3) := by decide +kernel
theorem dX11_weakly_29 : decode cX11_weakly 29 = .ok (.aload_n 0, 1) := by decide +kernel
theorem dX11_weakly_30 : decode cX11_weakly 30 = .ok (.aload_n 0, 1) := by decide +kernel
theorem dX11_weakly_31 : decode cX11_weakly 31 = .ok (.iload_n 2, 1) := by decide +kernel
theorem dX11_weakly_32 : decode cX11_weakly 32 = .ok (.invokevirtual 194, 3) := by decide +kernel
theorem dX11_weakly_35 : decode cX11_weakly 35 = .ok (.ifCond .ne 7, 3) := by decide +kernel
theorem dX11_weakly_38 : decode cX11_weakly 38 = .ok (.iconst 1, 1) := by decide +kernel
theorem dX11_weakly_39 : decode cX11_weakly 39 = .ok (.goto 4, 3) := by decide +kernel
theorem dX11_weakly_42 : decode cX11_weakly 42 = .ok (.iconst 0, 1) := by decide +kernel
theorem dX11_weakly_43 : decode cX11_weakly 43 = .ok (.iconst 2, 1) := by decide +kernel
theorem dX11_weakly_44 : decode cX11_weakly 44 = .ok (.invokevirtual 40, 3) := by decide +kernel
theorem dX11_weakly_47 : decode cX11_weakly 47 = .ok (.ifCond .eq 5, 3) := by decide +kernel
theorem dX11_weakly_50 : decode cX11_weakly 50 = .ok (.iconst 0, 1) := by decide +kernel
theorem dX11_weakly_51 : decode cX11_weakly 51 = .ok (.ireturn, 1) := by decide +kernel
theorem dX11_weakly_52 : decode cX11_weakly 52 = .ok (.aload_n 0, 1) := by decide +kernel
theorem dX11_weakly_53 : decode cX11_weakly 53 = .ok (.iload_n 1, 1) := by decide +kernel
theorem dX11_weakly_54 : decode cX11_weakly 54 = .ok (.iload_n 2, 1) := by decide +kernel
theorem dX11_weakly_55 : decode cX11_weakly 55 = .ok (.iconst 4, 1) := by decide +kernel
theorem dX11_weakly_56 : decode cX11_weakly 56 = .ok (.newarray .int, 2) := by decide +kernel
theorem dX11_weakly_58 : decode cX11_weakly 58 = .ok (.invokevirtual 225, 3) := by decide +kernel
theorem dX11_weakly_61 : decode cX11_weakly 61 = .ok (.ireturn, 1) := by decide +kernel
theorem dX11_holds_0 : decode cX11_holds 0 = .ok (.aload_n 0, 1) := by decide +kernel
theorem dX11_holds_1 : decode cX11_holds 1 = .ok (.aload_n 0, 1) := by decide +kernel
theorem dX11_holds_2 : decode cX11_holds 2 = .ok (.iload_n 1, 1) := by decide +kernel
theorem dX11_holds_3 : decode cX11_holds 3 = .ok (.invokevirtual 175, 3) := by decide +kernel
theorem dX11_holds_6 : decode cX11_holds 6 = .ok (.iconst 1, 1) := by decide +kernel
theorem dX11_holds_7 : decode cX11_holds 7 = .ok (.invokevirtual 40, 3) := by decide +kernel
theorem dX11_holds_10 : decode cX11_holds 10 = .ok (.ifCond .ne 37, 3) := by decide +kernel
theorem dX11_holds_13 : decode cX11_holds 13 = .ok (.aload_n 0, 1) := by decide +kernel
theorem dX11_holds_14 : decode cX11_holds 14 = .ok (.aload_n 0, 1) := by decide +kernel
theorem dX11_holds_15 : decode cX11_holds 15 = .ok (.iload_n 1, 1) := by decide +kernel
theorem dX11_holds_16 : decode cX11_holds 16 = .ok (.invokevirtual 194, 3) := by decide +kernel
theorem dX11_holds_19 : decode cX11_holds 19 = .ok (.ifCond .ne 7, 3) := by decide +kernel
theorem dX11_holds_22 : decode cX11_holds 22 = .ok (.iconst 1, 1) := by decide +kernel
theorem dX11_holds_23 : decode cX11_holds 23 = .ok (.goto 4, 3) := by decide +kernel
theorem dX11_holds_26 : decode cX11_holds 26 = .ok (.iconst 0, 1) := by decide +kernel
theorem dX11_holds_27 : decode cX11_holds 27 = .ok (.iconst 2, 1) := by decide +kernel
theorem dX11_holds_28 : decode cX11_holds 28 = .ok (.invokevirtual 40, 3) := by decide +kernel
theorem dX11_holds_31 : decode cX11_holds 31 = .ok (.ifCond .ne 16, 3) := by decide +kernel
theorem dX11_holds_34 : decode cX11_holds 34 = .ok (.aload_n 0, 1) := by decide +kernel
theorem dX11_holds_35 : decode cX11_holds 35 = .ok (.aload_n 0, 1) := by decide +kernel
theorem dX11_holds_36 : decode cX11_holds 36 = .ok (.iload_n 2, 1) := by decide +kernel
theorem dX11_holds_37 : decode cX11_holds 37 = .ok (.invokevirtual 118, 3) := by decide +kernel
theorem dX11_holds_40 : decode cX11_holds 40 = .ok (.iconst 3, 1) := by decide +kernel
theorem dX11_holds_41 : decode cX11_holds 41 = .ok (.invokevirtual 40, 3) := by decide +kernel
theorem dX11_holds_44 : decode cX11_holds 44 = .ok (.ifCond .eq 5, 3) := by decide +kernel
theorem dX11_holds_47 : decode cX11_holds 47 = .ok (.iconst 0, 1) := by decide +kernel
theorem dX11_holds_48 : decode cX11_holds 48 = .ok (.ireturn, 1) := by decide +kernel
theorem dX11_holds_49 : decode cX11_holds 49 = .ok (.aload_n 0, 1) := by decide +kernel
theorem dX11_holds_50 : decode cX11_holds 50 = .ok (.iload_n 1, 1) := by decide +kernel
theorem dX11_holds_51 : decode cX11_holds 51 = .ok (.iload_n 2, 1) := by decide +kernel
theorem dX11_holds_52 : decode cX11_holds 52 = .ok (.iconst 4, 1) := by decide +kernel
theorem dX11_holds_53 : decode cX11_holds 53 = .ok (.newarray .int, 2) := by decide +kernel
theorem dX11_holds_55 : decode cX11_holds 55 = .ok (.invokevirtual 206, 3) := by decide +kernel
theorem dX11_holds_58 : decode cX11_holds 58 = .ok (.ireturn, 1) := by decide +kernel
theorem dX11_against_0 : decode cX11_against 0 = .ok (.aload_n 0, 1) := by decide +kernel
theorem dX11_against_1 : decode cX11_against 1 = .ok (.aload_n 0, 1) := by decide +kernel
theorem dX11_against_2 : decode cX11_against 2 = .ok (.iload_n 1, 1) := by decide +kernel
theorem dX11_against_3 : decode cX11_against 3 = .ok (.invokevirtual 175, 3) := by decide +kernel
theorem dX11_against_6 : decode cX11_against 6 = .ok (.iconst 1, 1) := by decide +kernel
theorem dX11_against_7 : decode cX11_against 7 = .ok (.invokevirtual 40, 3) := by decide +kernel
theorem dX11_against_10 : decode cX11_against 10 = .ok (.ifCond .ne 24, 3) := by decide +kernel
theorem dX11_against_13 : decode cX11_against 13 = .ok (.aload_n 0, 1) := by decide +kernel
theorem dX11_against_14 : decode cX11_against 14 = .ok (.aload_n 0, 1) := by decide +kernel
theorem dX11_against_15 : decode cX11_against 15 = .ok (.iload_n 1, 1) := by decide +kernel
theorem dX11_against_16 : decode cX11_against 16 = .ok (.invokevirtual 194, 3) := by decide +kernel
theorem dX11_against_19 : decode cX11_against 19 = .ok (.ifCond .ne 7, 3) := by decide +kernel
theorem dX11_against_22 : decode cX11_against 22 = .ok (.iconst 1, 1) := by decide +kernel
theorem dX11_against_23 : decode cX11_against 23 = .ok (.goto 4, 3) := by decide +kernel
theorem dX11_against_26 : decode cX11_against 26 = .ok (.iconst 0, 1) := by decide +kernel
theorem dX11_against_27 : decode cX11_against 27 = .ok (.iconst 2, 1) := by decide +kernel
theorem dX11_against_28 : decode cX11_against 28 = .ok (.invokevirtual 40, 3) := by decide +kernel
theorem dX11_against_31 : decode cX11_against 31 = .ok (.ifCond .eq 5, 3) := by decide +kernel
theorem dX11_against_34 : decode cX11_against 34 = .ok (.iconst 0, 1) := by decide +kernel
theorem dX11_against_35 : decode cX11_against 35 = .ok (.ireturn, 1) := by decide +kernel
theorem dX11_against_36 : decode cX11_against 36 = .ok (.aload_n 0, 1) := by decide +kernel
theorem dX11_against_37 : decode cX11_against 37 = .ok (.invokevirtual 97, 3) := by decide +kernel
theorem dX11_against_40 : decode cX11_against 40 = .ok (.aload_n 0, 1) := by decide +kernel
theorem dX11_against_41 : decode cX11_against 41 = .ok (.iload_n 1, 1) := by decide +kernel
theorem dX11_against_42 : decode cX11_against 42 = .ok (.invokevirtual 213, 3) := by decide +kernel
theorem dX11_against_45 : decode cX11_against 45 = .ok (.iconst (-1), 1) := by decide +kernel
theorem dX11_against_46 : decode cX11_against 46 = .ok (.ixor, 1) := by decide +kernel
theorem dX11_against_47 : decode cX11_against 47 = .ok (.iand, 1) := by decide +kernel
theorem dX11_against_48 : decode cX11_against 48 = .ok (.istore_n 2, 1) := by decide +kernel
theorem dX11_against_49 : decode cX11_against 49 = .ok (.aload_n 0, 1) := by decide +kernel
theorem dX11_against_50 : decode cX11_against 50 = .ok (.iload_n 2, 1) := by decide +kernel
theorem dX11_against_51 : decode cX11_against 51 = .ok (.ifCond .eq 7, 3) := by decide +kernel
theorem dX11_against_54 : decode cX11_against 54 = .ok (.iconst 1, 1) := by decide +kernel
theorem dX11_against_55 : decode cX11_against 55 = .ok (.goto 4, 3) := by decide +kernel
theorem dX11_against_58 : decode cX11_against 58 = .ok (.iconst 0, 1) := by decide +kernel
theorem dX11_against_59 : decode cX11_against 59 = .ok (.iconst 3, 1) := by decide +kernel
theorem dX11_against_60 : decode cX11_against 60 = .ok (.invokevirtual 40, 3) := by decide +kernel
theorem dX11_against_63 : decode cX11_against 63 = .ok (.ifCond .eq 7, 3) := by decide +kernel
theorem dX11_against_66 : decode cX11_against 66 = .ok (.iconst 0, 1) := by decide +kernel
theorem dX11_against_67 : decode cX11_against 67 = .ok (.goto 7, 3) := by decide +kernel
theorem dX11_against_70 : decode cX11_against 70 = .ok (.iload_n 2, 1) := by decide +kernel
theorem dX11_against_71 : decode cX11_against 71 = .ok (.invokestatic 232, 3) := by decide +kernel
theorem dX11_against_74 : decode cX11_against 74 = .ok (.ireturn, 1) := by decide +kernel
theorem dX11_keepsOrder_0 : decode cX11_keepsOrder 0 = .ok (.iconst 1, 1) := by decide +kernel
theorem dX11_keepsOrder_1 : decode cX11_keepsOrder 1 = .ok (.istore_n 1, 1) := by decide +kernel
theorem dX11_keepsOrder_2 : decode cX11_keepsOrder 2 = .ok (.iconst 0, 1) := by decide +kernel
theorem dX11_keepsOrder_3 : decode cX11_keepsOrder 3 = .ok (.istore_n 2, 1) := by decide +kernel
theorem dX11_keepsOrder_4 : decode cX11_keepsOrder 4 = .ok (.iload_n 2, 1) := by decide +kernel
theorem dX11_keepsOrder_5 : decode cX11_keepsOrder 5 = .ok (.aload_n 0, 1) := by decide +kernel
theorem dX11_keepsOrder_6 : decode cX11_keepsOrder 6 = .ok (.getfield 10, 3) := by decide +kernel
theorem dX11_keepsOrder_9 : decode cX11_keepsOrder 9 = .ok (.invokeinterface 30 1, 5) := by decide +kernel
theorem dX11_keepsOrder_14 : decode cX11_keepsOrder 14 = .ok (.if_icmp .ge 63, 3) := by decide +kernel
theorem dX11_keepsOrder_17 : decode cX11_keepsOrder 17 = .ok (.iconst 0, 1) := by decide +kernel
theorem dX11_keepsOrder_18 : decode cX11_keepsOrder 18 = .ok (.istore_n 3, 1) := by decide +kernel
theorem dX11_keepsOrder_19 : decode cX11_keepsOrder 19 = .ok (.iload_n 3, 1) := by decide +kernel
theorem dX11_keepsOrder_20 : decode cX11_keepsOrder 20 = .ok (.aload_n 0, 1) := by decide +kernel
theorem dX11_keepsOrder_21 : decode cX11_keepsOrder 21 = .ok (.getfield 10, 3) := by decide +kernel
theorem dX11_keepsOrder_24 : decode cX11_keepsOrder 24 = .ok (.invokeinterface 30 1, 5) := by decide +kernel
theorem dX11_keepsOrder_29 : decode cX11_keepsOrder 29 = .ok (.if_icmp .ge 42, 3) := by decide +kernel
theorem dX11_keepsOrder_32 : decode cX11_keepsOrder 32 = .ok (.iload_n 1, 1) := by decide +kernel
theorem dX11_keepsOrder_33 : decode cX11_keepsOrder 33 = .ok (.aload_n 0, 1) := by decide +kernel
theorem dX11_keepsOrder_34 : decode cX11_keepsOrder 34 = .ok (.iload_n 2, 1) := by decide +kernel
theorem dX11_keepsOrder_35 : decode cX11_keepsOrder 35 = .ok (.iload_n 3, 1) := by decide +kernel
theorem dX11_keepsOrder_36 : decode cX11_keepsOrder 36 = .ok (.invokevirtual 69, 3) := by decide +kernel
theorem dX11_keepsOrder_39 : decode cX11_keepsOrder 39 = .ok (.aload_n 0, 1) := by decide +kernel
theorem dX11_keepsOrder_40 : decode cX11_keepsOrder 40 = .ok (.aload_n 0, 1) := by decide +kernel
theorem dX11_keepsOrder_41 : decode cX11_keepsOrder 41 = .ok (.getfield 22, 3) := by decide +kernel
theorem dX11_keepsOrder_44 : decode cX11_keepsOrder 44 = .ok (.iload_n 2, 1) := by decide +kernel
theorem dX11_keepsOrder_45 : decode cX11_keepsOrder 45 = .ok (.iaload, 1) := by decide +kernel
theorem dX11_keepsOrder_46 : decode cX11_keepsOrder 46 = .ok (.aload_n 0, 1) := by decide +kernel
theorem dX11_keepsOrder_47 : decode cX11_keepsOrder 47 = .ok (.getfield 22, 3) := by decide +kernel
theorem dX11_keepsOrder_50 : decode cX11_keepsOrder 50 = .ok (.iload_n 3, 1) := by decide +kernel
theorem dX11_keepsOrder_51 : decode cX11_keepsOrder 51 = .ok (.iaload, 1) := by decide +kernel
theorem dX11_keepsOrder_52 : decode cX11_keepsOrder 52 = .ok (.invokevirtual 69, 3) := by decide +kernel
theorem dX11_keepsOrder_55 : decode cX11_keepsOrder 55 = .ok (.if_icmp .ne 7, 3) := by decide +kernel
theorem dX11_keepsOrder_58 : decode cX11_keepsOrder 58 = .ok (.iconst 1, 1) := by decide +kernel
theorem dX11_keepsOrder_59 : decode cX11_keepsOrder 59 = .ok (.goto 4, 3) := by decide +kernel
theorem dX11_keepsOrder_62 : decode cX11_keepsOrder 62 = .ok (.iconst 0, 1) := by decide +kernel
theorem dX11_keepsOrder_63 : decode cX11_keepsOrder 63 = .ok (.iand, 1) := by decide +kernel
theorem dX11_keepsOrder_64 : decode cX11_keepsOrder 64 = .ok (.istore_n 1, 1) := by decide +kernel
theorem dX11_keepsOrder_65 : decode cX11_keepsOrder 65 = .ok (.iinc 3 1, 3) := by decide +kernel
theorem dX11_keepsOrder_68 : decode cX11_keepsOrder 68 = .ok (.goto (-49), 3) := by decide +kernel
theorem dX11_keepsOrder_71 : decode cX11_keepsOrder 71 = .ok (.iinc 2 1, 3) := by decide +kernel
theorem dX11_keepsOrder_74 : decode cX11_keepsOrder 74 = .ok (.goto (-70), 3) := by decide +kernel
theorem dX11_keepsOrder_77 : decode cX11_keepsOrder 77 = .ok (.iload_n 1, 1) := by decide +kernel
theorem dX11_keepsOrder_78 : decode cX11_keepsOrder 78 = .ok (.ireturn, 1) := by decide +kernel
theorem dX11_swap_0 : decode cX11_swap 0 = .ok (.aload_n 0, 1) := by decide +kernel
theorem dX11_swap_1 : decode cX11_swap 1 = .ok (.aload_n 0, 1) := by decide +kernel
theorem dX11_swap_2 : decode cX11_swap 2 = .ok (.iload_n 1, 1) := by decide +kernel
theorem dX11_swap_3 : decode cX11_swap 3 = .ok (.invokevirtual 65, 3) := by decide +kernel
theorem dX11_swap_6 : decode cX11_swap 6 = .ok (.ifCond .eq 15, 3) := by decide +kernel
theorem dX11_swap_9 : decode cX11_swap 9 = .ok (.aload_n 0, 1) := by decide +kernel
theorem dX11_swap_10 : decode cX11_swap 10 = .ok (.iload_n 2, 1) := by decide +kernel
theorem dX11_swap_11 : decode cX11_swap 11 = .ok (.invokevirtual 65, 3) := by decide +kernel
theorem dX11_swap_14 : decode cX11_swap 14 = .ok (.ifCond .eq 7, 3) := by decide +kernel
theorem dX11_swap_17 : decode cX11_swap 17 = .ok (.iconst 1, 1) := by decide +kernel
theorem dX11_swap_18 : decode cX11_swap 18 = .ok (.goto 4, 3) := by decide +kernel
theorem dX11_swap_21 : decode cX11_swap 21 = .ok (.iconst 0, 1) := by decide +kernel
theorem dX11_swap_22 : decode cX11_swap 22 = .ok (.iconst 1, 1) := by decide +kernel
theorem dX11_swap_23 : decode cX11_swap 23 = .ok (.invokevirtual 40, 3) := by decide +kernel
theorem dX11_swap_26 : decode cX11_swap 26 = .ok (.ifCond .eq 5, 3) := by decide +kernel
theorem dX11_swap_29 : decode cX11_swap 29 = .ok (.iconst 0, 1) := by decide +kernel
theorem dX11_swap_30 : decode cX11_swap 30 = .ok (.ireturn, 1) := by decide +kernel
theorem dX11_swap_31 : decode cX11_swap 31 = .ok (.aload_n 0, 1) := by decide +kernel
theorem dX11_swap_32 : decode cX11_swap 32 = .ok (.getfield 22, 3) := by decide +kernel
theorem dX11_swap_35 : decode cX11_swap 35 = .ok (.iload_n 1, 1) := by decide +kernel
theorem dX11_swap_36 : decode cX11_swap 36 = .ok (.iaload, 1) := by decide +kernel
theorem dX11_swap_37 : decode cX11_swap 37 = .ok (.istore_n 3, 1) := by decide +kernel
theorem dX11_swap_38 : decode cX11_swap 38 = .ok (.aload_n 0, 1) := by decide +kernel
theorem dX11_swap_39 : decode cX11_swap 39 = .ok (.getfield 22, 3) := by decide +kernel
theorem dX11_swap_42 : decode cX11_swap 42 = .ok (.iload_n 1, 1) := by decide +kernel
theorem dX11_swap_43 : decode cX11_swap 43 = .ok (.aload_n 0, 1) := by decide +kernel
theorem dX11_swap_44 : decode cX11_swap 44 = .ok (.getfield 22, 3) := by decide +kernel
theorem dX11_swap_47 : decode cX11_swap 47 = .ok (.iload_n 2, 1) := by decide +kernel
theorem dX11_swap_48 : decode cX11_swap 48 = .ok (.iaload, 1) := by decide +kernel
theorem dX11_swap_49 : decode cX11_swap 49 = .ok (.iastore, 1) := by decide +kernel
theorem dX11_swap_50 : decode cX11_swap 50 = .ok (.aload_n 0, 1) := by decide +kernel
theorem dX11_swap_51 : decode cX11_swap 51 = .ok (.getfield 22, 3) := by decide +kernel
theorem dX11_swap_54 : decode cX11_swap 54 = .ok (.iload_n 2, 1) := by decide +kernel
theorem dX11_swap_55 : decode cX11_swap 55 = .ok (.iload_n 3, 1) := by decide +kernel
theorem dX11_swap_56 : decode cX11_swap 56 = .ok (.iastore, 1) := by decide +kernel
theorem dX11_swap_57 : decode cX11_swap 57 = .ok (.aload_n 0, 1) := by decide +kernel
theorem dX11_swap_58 : decode cX11_swap 58 = .ok (.invokevirtual 235, 3) := by decide +kernel
theorem dX11_swap_61 : decode cX11_swap 61 = .ok (.ireturn, 1) := by decide +kernel
theorem dX11_goes_0 : decode cX11_goes 0 = .ok (.aload_n 0, 1) := by decide +kernel
theorem dX11_goes_1 : decode cX11_goes 1 = .ok (.aload_n 0, 1) := by decide +kernel
theorem dX11_goes_2 : decode cX11_goes 2 = .ok (.iload_n 1, 1) := by decide +kernel
theorem dX11_goes_3 : decode cX11_goes 3 = .ok (.invokevirtual 65, 3) := by decide +kernel
theorem dX11_goes_6 : decode cX11_goes 6 = .ok (.iconst 1, 1) := by decide +kernel
theorem dX11_goes_7 : decode cX11_goes 7 = .ok (.invokevirtual 40, 3) := by decide +kernel
theorem dX11_goes_10 : decode cX11_goes 10 = .ok (.ifCond .eq 7, 3) := by decide +kernel
theorem dX11_goes_13 : decode cX11_goes 13 = .ok (.iconst 0, 1) := by decide +kernel
theorem dX11_goes_14 : decode cX11_goes 14 = .ok (.goto 9, 3) := by decide +kernel
theorem dX11_goes_17 : decode cX11_goes 17 = .ok (.aload_n 0, 1) := by decide +kernel
theorem dX11_goes_18 : decode cX11_goes 18 = .ok (.getfield 22, 3) := by decide +kernel
theorem dX11_goes_21 : decode cX11_goes 21 = .ok (.iload_n 1, 1) := by decide +kernel
theorem dX11_goes_22 : decode cX11_goes 22 = .ok (.iaload, 1) := by decide +kernel
theorem dX11_goes_23 : decode cX11_goes 23 = .ok (.ireturn, 1) := by decide +kernel
theorem dX11_moved_0 : decode cX11_moved 0 = .ok (.iconst 0, 1) := by decide +kernel
theorem dX11_moved_1 : decode cX11_moved 1 = .ok (.istore_n 3, 1) := by decide +kernel
theorem dX11_moved_2 : decode cX11_moved 2 = .ok (.aload_n 0, 1) := by decide +kernel
theorem dX11_moved_3 : decode cX11_moved 3 = .ok (.getfield 16, 3) := by decide +kernel
theorem dX11_moved_6 : decode cX11_moved 6 = .ok (.iload_n 1, 1) := by decide +kernel
theorem dX11_moved_7 : decode cX11_moved 7 = .ok (.invokeinterface 54 2, 5) := by decide +kernel
theorem dX11_moved_12 : decode cX11_moved 12 = .ok (.checkcast 121, 3) := by decide +kernel
theorem dX11_moved_15 : decode cX11_moved 15 = .ok (.getfield 124, 3) := by decide +kernel
theorem dX11_moved_18 : decode cX11_moved 18 = .ok (.invokeinterface 76 1, 5) := by decide +kernel
theorem dX11_moved_23 : decode cX11_moved 23 = .ok (.astore 4, 2) := by decide +kernel
theorem dX11_moved_25 : decode cX11_moved 25 = .ok (.aload 4, 2) := by decide +kernel
theorem dX11_moved_27 : decode cX11_moved 27 = .ok (.invokeinterface 80 1, 5) := by decide +kernel
theorem dX11_moved_32 : decode cX11_moved 32 = .ok (.ifCond .eq 53, 3) := by decide +kernel
theorem dX11_moved_35 : decode cX11_moved 35 = .ok (.aload 4, 2) := by decide +kernel
theorem dX11_moved_37 : decode cX11_moved 37 = .ok (.invokeinterface 86 1, 5) := by decide +kernel
theorem dX11_moved_42 : decode cX11_moved 42 = .ok (.checkcast 127, 3) := by decide +kernel
theorem dX11_moved_45 : decode cX11_moved 45 = .ok (.astore 5, 2) := by decide +kernel
theorem dX11_moved_47 : decode cX11_moved 47 = .ok (.iload_n 3, 1) := by decide +kernel
theorem dX11_moved_48 : decode cX11_moved 48 = .ok (.aload_n 0, 1) := by decide +kernel
theorem dX11_moved_49 : decode cX11_moved 49 = .ok (.iload_n 2, 1) := by decide +kernel
theorem dX11_moved_50 : decode cX11_moved 50 = .ok (.aload_n 0, 1) := by decide +kernel
theorem dX11_moved_51 : decode cX11_moved 51 = .ok (.getfield 22, 3) := by decide +kernel
theorem dX11_moved_54 : decode cX11_moved 54 = .ok (.aload 5, 2) := by decide +kernel
theorem dX11_moved_56 : decode cX11_moved 56 = .ok (.iconst 1, 1) := by decide +kernel
theorem dX11_moved_57 : decode cX11_moved 57 = .ok (.iaload, 1) := by decide +kernel
theorem dX11_moved_58 : decode cX11_moved 58 = .ok (.iaload, 1) := by decide +kernel
theorem dX11_moved_59 : decode cX11_moved 59 = .ok (.invokevirtual 69, 3) := by decide +kernel
theorem dX11_moved_62 : decode cX11_moved 62 = .ok (.ifCond .eq 17, 3) := by decide +kernel
theorem dX11_moved_65 : decode cX11_moved 65 = .ok (.iconst 1, 1) := by decide +kernel
theorem dX11_moved_66 : decode cX11_moved 66 = .ok (.aload_n 0, 1) := by decide +kernel
theorem dX11_moved_67 : decode cX11_moved 67 = .ok (.aload 5, 2) := by decide +kernel
theorem dX11_moved_69 : decode cX11_moved 69 = .ok (.iconst 0, 1) := by decide +kernel
theorem dX11_moved_70 : decode cX11_moved 70 = .ok (.iaload, 1) := by decide +kernel
theorem dX11_moved_71 : decode cX11_moved 71 = .ok (.iload_n 2, 1) := by decide +kernel
theorem dX11_moved_72 : decode cX11_moved 72 = .ok (.invokevirtual 238, 3) := by decide +kernel
theorem dX11_moved_75 : decode cX11_moved 75 = .ok (.ishl, 1) := by decide +kernel
theorem dX11_moved_76 : decode cX11_moved 76 = .ok (.goto 4, 3) := by decide +kernel
theorem dX11_moved_79 : decode cX11_moved 79 = .ok (.iconst 0, 1) := by decide +kernel
theorem dX11_moved_80 : decode cX11_moved 80 = .ok (.ior, 1) := by decide +kernel
theorem dX11_moved_81 : decode cX11_moved 81 = .ok (.istore_n 3, 1) := by decide +kernel
theorem dX11_moved_82 : decode cX11_moved 82 = .ok (.goto (-57), 3) := by decide +kernel
theorem dX11_moved_85 : decode cX11_moved 85 = .ok (.iload_n 3, 1) := by decide +kernel
theorem dX11_moved_86 : decode cX11_moved 86 = .ok (.ireturn, 1) := by decide +kernel
theorem dX11_isFixed_0 : decode cX11_isFixed 0 = .ok (.aload_n 0, 1) := by decide +kernel
theorem dX11_isFixed_1 : decode cX11_isFixed 1 = .ok (.aload_n 0, 1) := by decide +kernel
theorem dX11_isFixed_2 : decode cX11_isFixed 2 = .ok (.iload_n 1, 1) := by decide +kernel
theorem dX11_isFixed_3 : decode cX11_isFixed 3 = .ok (.invokevirtual 131, 3) := by decide +kernel
theorem dX11_isFixed_6 : decode cX11_isFixed 6 = .ok (.iconst 1, 1) := by decide +kernel
theorem dX11_isFixed_7 : decode cX11_isFixed 7 = .ok (.invokevirtual 40, 3) := by decide +kernel
theorem dX11_isFixed_10 : decode cX11_isFixed 10 = .ok (.ifCond .ne 15, 3) := by decide +kernel
theorem dX11_isFixed_13 : decode cX11_isFixed 13 = .ok (.aload_n 0, 1) := by decide +kernel
theorem dX11_isFixed_14 : decode cX11_isFixed 14 = .ok (.aload_n 0, 1) := by decide +kernel
theorem dX11_isFixed_15 : decode cX11_isFixed 15 = .ok (.invokevirtual 235, 3) := by decide +kernel
theorem dX11_isFixed_18 : decode cX11_isFixed 18 = .ok (.iconst 2, 1) := by decide +kernel
theorem dX11_isFixed_19 : decode cX11_isFixed 19 = .ok (.invokevirtual 40, 3) := by decide +kernel
theorem dX11_isFixed_22 : decode cX11_isFixed 22 = .ok (.ifCond .eq 5, 3) := by decide +kernel
theorem dX11_isFixed_25 : decode cX11_isFixed 25 = .ok (.iconst 0, 1) := by decide +kernel
theorem dX11_isFixed_26 : decode cX11_isFixed 26 = .ok (.ireturn, 1) := by decide +kernel
theorem dX11_isFixed_27 : decode cX11_isFixed 27 = .ok (.iconst 1, 1) := by decide +kernel
theorem dX11_isFixed_28 : decode cX11_isFixed 28 = .ok (.istore_n 2, 1) := by decide +kernel
theorem dX11_isFixed_29 : decode cX11_isFixed 29 = .ok (.iconst 0, 1) := by decide +kernel
theorem dX11_isFixed_30 : decode cX11_isFixed 30 = .ok (.istore_n 3, 1) := by decide +kernel
theorem dX11_isFixed_31 : decode cX11_isFixed 31 = .ok (.iload_n 3, 1) := by decide +kernel
theorem dX11_isFixed_32 : decode cX11_isFixed 32 = .ok (.aload_n 0, 1) := by decide +kernel
theorem dX11_isFixed_33 : decode cX11_isFixed 33 = .ok (.getfield 10, 3) := by decide +kernel
theorem dX11_isFixed_36 : decode cX11_isFixed 36 = .ok (.invokeinterface 30 1, 5) := by decide +kernel
theorem dX11_isFixed_41 : decode cX11_isFixed 41 = .ok (.if_icmp .ge 43, 3) := by decide +kernel
theorem dX11_isFixed_44 : decode cX11_isFixed 44 = .ok (.iload_n 2, 1) := by decide +kernel
theorem dX11_isFixed_45 : decode cX11_isFixed 45 = .ok (.aload_n 0, 1) := by decide +kernel
theorem dX11_isFixed_46 : decode cX11_isFixed 46 = .ok (.invokevirtual 97, 3) := by decide +kernel
theorem dX11_isFixed_49 : decode cX11_isFixed 49 = .ok (.iload_n 3, 1) := by decide +kernel
theorem dX11_isFixed_50 : decode cX11_isFixed 50 = .ok (.invokestatic 61, 3) := by decide +kernel
theorem dX11_isFixed_53 : decode cX11_isFixed 53 = .ok (.ifCond .eq 18, 3) := by decide +kernel
theorem dX11_isFixed_56 : decode cX11_isFixed 56 = .ok (.aload_n 0, 1) := by decide +kernel
theorem dX11_isFixed_57 : decode cX11_isFixed 57 = .ok (.iload_n 1, 1) := by decide +kernel
theorem dX11_isFixed_58 : decode cX11_isFixed 58 = .ok (.iload_n 3, 1) := by decide +kernel
theorem dX11_isFixed_59 : decode cX11_isFixed 59 = .ok (.invokevirtual 238, 3) := by decide +kernel
theorem dX11_isFixed_62 : decode cX11_isFixed 62 = .ok (.aload_n 0, 1) := by decide +kernel
theorem dX11_isFixed_63 : decode cX11_isFixed 63 = .ok (.iload_n 1, 1) := by decide +kernel
theorem dX11_isFixed_64 : decode cX11_isFixed 64 = .ok (.iload_n 3, 1) := by decide +kernel
theorem dX11_isFixed_65 : decode cX11_isFixed 65 = .ok (.invokevirtual 153, 3) := by decide +kernel
theorem dX11_isFixed_68 : decode cX11_isFixed 68 = .ok (.if_icmp .ne 7, 3) := by decide +kernel
theorem dX11_isFixed_71 : decode cX11_isFixed 71 = .ok (.iconst 1, 1) := by decide +kernel
theorem dX11_isFixed_72 : decode cX11_isFixed 72 = .ok (.goto 4, 3) := by decide +kernel
theorem dX11_isFixed_75 : decode cX11_isFixed 75 = .ok (.iconst 0, 1) := by decide +kernel
theorem dX11_isFixed_76 : decode cX11_isFixed 76 = .ok (.iand, 1) := by decide +kernel
theorem dX11_isFixed_77 : decode cX11_isFixed 77 = .ok (.istore_n 2, 1) := by decide +kernel
theorem dX11_isFixed_78 : decode cX11_isFixed 78 = .ok (.iinc 3 1, 3) := by decide +kernel
theorem dX11_isFixed_81 : decode cX11_isFixed 81 = .ok (.goto (-50), 3) := by decide +kernel
theorem dX11_isFixed_84 : decode cX11_isFixed 84 = .ok (.iload_n 2, 1) := by decide +kernel
theorem dX11_isFixed_85 : decode cX11_isFixed 85 = .ok (.ireturn, 1) := by decide +kernel
theorem dX11_clear_0 : decode cX11_clear 0 = .ok (.aload_n 0, 1) := by decide +kernel
theorem dX11_clear_1 : decode cX11_clear 1 = .ok (.getfield 19, 3) := by decide +kernel
theorem dX11_clear_4 : decode cX11_clear 4 = .ok (.invokeinterface 30 1, 5) := by decide +kernel
theorem dX11_clear_9 : decode cX11_clear 9 = .ok (.istore_n 1, 1) := by decide +kernel
theorem dX11_clear_10 : decode cX11_clear 10 = .ok (.aload_n 0, 1) := by decide +kernel
theorem dX11_clear_11 : decode cX11_clear 11 = .ok (.getfield 19, 3) := by decide +kernel
theorem dX11_clear_14 : decode cX11_clear 14 = .ok (.invokeinterface 241 1, 5) := by decide +kernel
theorem dX11_clear_19 : decode cX11_clear 19 = .ok (.iload_n 1, 1) := by decide +kernel
theorem dX11_clear_20 : decode cX11_clear 20 = .ok (.ireturn, 1) := by decide +kernel
theorem dX11_checksum_0 : decode cX11_checksum 0 = .ok (.ldc2_w 244, 3) := by decide +kernel
theorem dX11_checksum_3 : decode cX11_checksum 3 = .ok (.lstore_n 1, 1) := by decide +kernel
theorem dX11_checksum_4 : decode cX11_checksum 4 = .ok (.aload_n 0, 1) := by decide +kernel
theorem dX11_checksum_5 : decode cX11_checksum 5 = .ok (.getfield 10, 3) := by decide +kernel
theorem dX11_checksum_8 : decode cX11_checksum 8 = .ok (.invokeinterface 76 1, 5) := by decide +kernel
theorem dX11_checksum_13 : decode cX11_checksum 13 = .ok (.astore_n 3, 1) := by decide +kernel
theorem dX11_checksum_14 : decode cX11_checksum 14 = .ok (.aload_n 3, 1) := by decide +kernel
theorem dX11_checksum_15 : decode cX11_checksum 15 = .ok (.invokeinterface 80 1, 5) := by decide +kernel
theorem dX11_checksum_20 : decode cX11_checksum 20 = .ok (.ifCond .eq 30, 3) := by decide +kernel
theorem dX11_checksum_23 : decode cX11_checksum 23 = .ok (.aload_n 3, 1) := by decide +kernel
theorem dX11_checksum_24 : decode cX11_checksum 24 = .ok (.invokeinterface 86 1, 5) := by decide +kernel
theorem dX11_checksum_29 : decode cX11_checksum 29 = .ok (.checkcast 45, 3) := by decide +kernel
theorem dX11_checksum_32 : decode cX11_checksum 32 = .ok (.invokevirtual 58, 3) := by decide +kernel
theorem dX11_checksum_35 : decode cX11_checksum 35 = .ok (.istore 4, 2) := by decide +kernel
theorem dX11_checksum_37 : decode cX11_checksum 37 = .ok (.ldc2_w 246, 3) := by decide +kernel
theorem dX11_checksum_40 : decode cX11_checksum 40 = .ok (.lload_n 1, 1) := by decide +kernel
theorem dX11_checksum_41 : decode cX11_checksum 41 = .ok (.lmul, 1) := by decide +kernel
theorem dX11_checksum_42 : decode cX11_checksum 42 = .ok (.iload 4, 2) := by decide +kernel
theorem dX11_checksum_44 : decode cX11_checksum 44 = .ok (.i2l, 1) := by decide +kernel
theorem dX11_checksum_45 : decode cX11_checksum 45 = .ok (.ladd, 1) := by decide +kernel
theorem dX11_checksum_46 : decode cX11_checksum 46 = .ok (.lstore_n 1, 1) := by decide +kernel
theorem dX11_checksum_47 : decode cX11_checksum 47 = .ok (.goto (-33), 3) := by decide +kernel
theorem dX11_checksum_50 : decode cX11_checksum 50 = .ok (.iconst 0, 1) := by decide +kernel
theorem dX11_checksum_51 : decode cX11_checksum 51 = .ok (.istore_n 3, 1) := by decide +kernel
theorem dX11_checksum_52 : decode cX11_checksum 52 = .ok (.iload_n 3, 1) := by decide +kernel
theorem dX11_checksum_53 : decode cX11_checksum 53 = .ok (.aload_n 0, 1) := by decide +kernel
theorem dX11_checksum_54 : decode cX11_checksum 54 = .ok (.getfield 16, 3) := by decide +kernel
theorem dX11_checksum_57 : decode cX11_checksum 57 = .ok (.invokeinterface 30 1, 5) := by decide +kernel
theorem dX11_checksum_62 : decode cX11_checksum 62 = .ok (.if_icmp .ge 92, 3) := by decide +kernel
theorem dX11_checksum_65 : decode cX11_checksum 65 = .ok (.ldc2_w 246, 3) := by decide +kernel
theorem dX11_checksum_68 : decode cX11_checksum 68 = .ok (.lload_n 1, 1) := by decide +kernel
theorem dX11_checksum_69 : decode cX11_checksum 69 = .ok (.lmul, 1) := by decide +kernel
theorem dX11_checksum_70 : decode cX11_checksum 70 = .ok (.aload_n 0, 1) := by decide +kernel
theorem dX11_checksum_71 : decode cX11_checksum 71 = .ok (.iload_n 3, 1) := by decide +kernel
theorem dX11_checksum_72 : decode cX11_checksum 72 = .ok (.invokevirtual 128, 3) := by decide +kernel
theorem dX11_checksum_75 : decode cX11_checksum 75 = .ok (.i2l, 1) := by decide +kernel
theorem dX11_checksum_76 : decode cX11_checksum 76 = .ok (.ladd, 1) := by decide +kernel
theorem dX11_checksum_77 : decode cX11_checksum 77 = .ok (.lstore_n 1, 1) := by decide +kernel
theorem dX11_checksum_78 : decode cX11_checksum 78 = .ok (.aload_n 0, 1) := by decide +kernel
theorem dX11_checksum_79 : decode cX11_checksum 79 = .ok (.getfield 16, 3) := by decide +kernel
theorem dX11_checksum_82 : decode cX11_checksum 82 = .ok (.iload_n 3, 1) := by decide +kernel
theorem dX11_checksum_83 : decode cX11_checksum 83 = .ok (.invokeinterface 54 2, 5) := by decide +kernel
theorem dX11_checksum_88 : decode cX11_checksum 88 = .ok (.checkcast 121, 3) := by decide +kernel
theorem dX11_checksum_91 : decode cX11_checksum 91 = .ok (.getfield 124, 3) := by decide +kernel
theorem dX11_checksum_94 : decode cX11_checksum 94 = .ok (.invokeinterface 76 1, 5) := by decide +kernel
theorem dX11_checksum_99 : decode cX11_checksum 99 = .ok (.astore 4, 2) := by decide +kernel
theorem dX11_checksum_101 : decode cX11_checksum 101 = .ok (.aload 4, 2) := by decide +kernel
theorem dX11_checksum_103 : decode cX11_checksum 103 = .ok (.invokeinterface 80 1, 5) := by decide +kernel
theorem dX11_checksum_108 : decode cX11_checksum 108 = .ok (.ifCond .eq 40, 3) := by decide +kernel
theorem dX11_checksum_111 : decode cX11_checksum 111 = .ok (.aload 4, 2) := by decide +kernel
theorem dX11_checksum_113 : decode cX11_checksum 113 = .ok (.invokeinterface 86 1, 5) := by decide +kernel
theorem dX11_checksum_118 : decode cX11_checksum 118 = .ok (.checkcast 127, 3) := by decide +kernel
theorem dX11_checksum_121 : decode cX11_checksum 121 = .ok (.astore 5, 2) := by decide +kernel
theorem dX11_checksum_123 : decode cX11_checksum 123 = .ok (.ldc2_w 246, 3) := by decide +kernel
theorem dX11_checksum_126 : decode cX11_checksum 126 = .ok (.lload_n 1, 1) := by decide +kernel
theorem dX11_checksum_127 : decode cX11_checksum 127 = .ok (.lmul, 1) := by decide +kernel
theorem dX11_checksum_128 : decode cX11_checksum 128 = .ok (.aload 5, 2) := by decide +kernel
theorem dX11_checksum_130 : decode cX11_checksum 130 = .ok (.iconst 0, 1) := by decide +kernel
theorem dX11_checksum_131 : decode cX11_checksum 131 = .ok (.iaload, 1) := by decide +kernel
theorem dX11_checksum_132 : decode cX11_checksum 132 = .ok (.i2l, 1) := by decide +kernel
theorem dX11_checksum_133 : decode cX11_checksum 133 = .ok (.ladd, 1) := by decide +kernel
theorem dX11_checksum_134 : decode cX11_checksum 134 = .ok (.ldc2_w 248, 3) := by decide +kernel
theorem dX11_checksum_137 : decode cX11_checksum 137 = .ok (.aload 5, 2) := by decide +kernel
theorem dX11_checksum_139 : decode cX11_checksum 139 = .ok (.iconst 1, 1) := by decide +kernel
theorem dX11_checksum_140 : decode cX11_checksum 140 = .ok (.iaload, 1) := by decide +kernel
theorem dX11_checksum_141 : decode cX11_checksum 141 = .ok (.i2l, 1) := by decide +kernel
theorem dX11_checksum_142 : decode cX11_checksum 142 = .ok (.lmul, 1) := by decide +kernel
theorem dX11_checksum_143 : decode cX11_checksum 143 = .ok (.ladd, 1) := by decide +kernel
theorem dX11_checksum_144 : decode cX11_checksum 144 = .ok (.lstore_n 1, 1) := by decide +kernel
theorem dX11_checksum_145 : decode cX11_checksum 145 = .ok (.goto (-44), 3) := by decide +kernel
theorem dX11_checksum_148 : decode cX11_checksum 148 = .ok (.iinc 3 1, 3) := by decide +kernel
theorem dX11_checksum_151 : decode cX11_checksum 151 = .ok (.goto (-99), 3) := by decide +kernel
theorem dX11_checksum_154 : decode cX11_checksum 154 = .ok (.ldc2_w 246, 3) := by decide +kernel
theorem dX11_checksum_157 : decode cX11_checksum 157 = .ok (.lload_n 1, 1) := by decide +kernel
theorem dX11_checksum_158 : decode cX11_checksum 158 = .ok (.lmul, 1) := by decide +kernel
theorem dX11_checksum_159 : decode cX11_checksum 159 = .ok (.aload_n 0, 1) := by decide +kernel
theorem dX11_checksum_160 : decode cX11_checksum 160 = .ok (.getfield 19, 3) := by decide +kernel
theorem dX11_checksum_163 : decode cX11_checksum 163 = .ok (.invokeinterface 30 1, 5) := by decide +kernel
theorem dX11_checksum_168 : decode cX11_checksum 168 = .ok (.i2l, 1) := by decide +kernel
theorem dX11_checksum_169 : decode cX11_checksum 169 = .ok (.ladd, 1) := by decide +kernel
theorem dX11_checksum_170 : decode cX11_checksum 170 = .ok (.lreturn, 1) := by decide +kernel
theorem dX11_lastShare_0 : decode cX11_lastShare 0 = .ok (.aload_n 0, 1) := by decide +kernel
theorem dX11_lastShare_1 : decode cX11_lastShare 1 = .ok (.aload_n 0, 1) := by decide +kernel
theorem dX11_lastShare_2 : decode cX11_lastShare 2 = .ok (.getfield 10, 3) := by decide +kernel
theorem dX11_lastShare_5 : decode cX11_lastShare 5 = .ok (.invokeinterface 144 1, 5) := by decide +kernel
theorem dX11_lastShare_10 : decode cX11_lastShare 10 = .ok (.ifCond .ne 7, 3) := by decide +kernel
theorem dX11_lastShare_13 : decode cX11_lastShare 13 = .ok (.iconst 1, 1) := by decide +kernel
theorem dX11_lastShare_14 : decode cX11_lastShare 14 = .ok (.goto 4, 3) := by decide +kernel
theorem dX11_lastShare_17 : decode cX11_lastShare 17 = .ok (.iconst 0, 1) := by decide +kernel
theorem dX11_lastShare_18 : decode cX11_lastShare 18 = .ok (.iconst 1, 1) := by decide +kernel
theorem dX11_lastShare_19 : decode cX11_lastShare 19 = .ok (.invokevirtual 40, 3) := by decide +kernel
theorem dX11_lastShare_22 : decode cX11_lastShare 22 = .ok (.ifCond .eq 7, 3) := by decide +kernel
theorem dX11_lastShare_25 : decode cX11_lastShare 25 = .ok (.fconst 0, 1) := by decide +kernel
theorem dX11_lastShare_26 : decode cX11_lastShare 26 = .ok (.goto 22, 3) := by decide +kernel
theorem dX11_lastShare_29 : decode cX11_lastShare 29 = .ok (.aload_n 0, 1) := by decide +kernel
theorem dX11_lastShare_30 : decode cX11_lastShare 30 = .ok (.invokevirtual 97, 3) := by decide +kernel
theorem dX11_lastShare_33 : decode cX11_lastShare 33 = .ok (.invokestatic 90, 3) := by decide +kernel
theorem dX11_lastShare_36 : decode cX11_lastShare 36 = .ok (.i2f, 1) := by decide +kernel
theorem dX11_lastShare_37 : decode cX11_lastShare 37 = .ok (.aload_n 0, 1) := by decide +kernel
theorem dX11_lastShare_38 : decode cX11_lastShare 38 = .ok (.getfield 10, 3) := by decide +kernel
theorem dX11_lastShare_41 : decode cX11_lastShare 41 = .ok (.invokeinterface 30 1, 5) := by decide +kernel
theorem dX11_lastShare_46 : decode cX11_lastShare 46 = .ok (.i2f, 1) := by decide +kernel
theorem dX11_lastShare_47 : decode cX11_lastShare 47 = .ok (.fdiv, 1) := by decide +kernel
theorem dX11_lastShare_48 : decode cX11_lastShare 48 = .ok (.freturn, 1) := by decide +kernel
theorem dX11_meanRank_0 : decode cX11_meanRank 0 = .ok (.iconst 0, 1) := by decide +kernel
theorem dX11_meanRank_1 : decode cX11_meanRank 1 = .ok (.istore_n 1, 1) := by decide +kernel
theorem dX11_meanRank_2 : decode cX11_meanRank 2 = .ok (.iconst 0, 1) := by decide +kernel
theorem dX11_meanRank_3 : decode cX11_meanRank 3 = .ok (.istore_n 2, 1) := by decide +kernel
theorem dX11_meanRank_4 : decode cX11_meanRank 4 = .ok (.iload_n 2, 1) := by decide +kernel
theorem dX11_meanRank_5 : decode cX11_meanRank 5 = .ok (.aload_n 0, 1) := by decide +kernel
theorem dX11_meanRank_6 : decode cX11_meanRank 6 = .ok (.getfield 16, 3) := by decide +kernel
theorem dX11_meanRank_9 : decode cX11_meanRank 9 = .ok (.invokeinterface 30 1, 5) := by decide +kernel
theorem dX11_meanRank_14 : decode cX11_meanRank 14 = .ok (.if_icmp .ge 17, 3) := by decide +kernel
theorem dX11_meanRank_17 : decode cX11_meanRank 17 = .ok (.iload_n 1, 1) := by decide +kernel
theorem dX11_meanRank_18 : decode cX11_meanRank 18 = .ok (.aload_n 0, 1) := by decide +kernel
theorem dX11_meanRank_19 : decode cX11_meanRank 19 = .ok (.iload_n 2, 1) := by decide +kernel
theorem dX11_meanRank_20 : decode cX11_meanRank 20 = .ok (.invokevirtual 128, 3) := by decide +kernel
theorem dX11_meanRank_23 : decode cX11_meanRank 23 = .ok (.iadd, 1) := by decide +kernel
theorem dX11_meanRank_24 : decode cX11_meanRank 24 = .ok (.istore_n 1, 1) := by decide +kernel
theorem dX11_meanRank_25 : decode cX11_meanRank 25 = .ok (.iinc 2 1, 3) := by decide +kernel
theorem dX11_meanRank_28 : decode cX11_meanRank 28 = .ok (.goto (-24), 3) := by decide +kernel
theorem dX11_meanRank_31 : decode cX11_meanRank 31 = .ok (.aload_n 0, 1) := by decide +kernel
theorem dX11_meanRank_32 : decode cX11_meanRank 32 = .ok (.aload_n 0, 1) := by decide +kernel
theorem dX11_meanRank_33 : decode cX11_meanRank 33 = .ok (.getfield 16, 3) := by decide +kernel
theorem dX11_meanRank_36 : decode cX11_meanRank 36 = .ok (.invokeinterface 144 1, 5) := by decide +kernel
theorem dX11_meanRank_41 : decode cX11_meanRank 41 = .ok (.ifCond .ne 7, 3) := by decide +kernel
theorem dX11_meanRank_44 : decode cX11_meanRank 44 = .ok (.iconst 1, 1) := by decide +kernel
theorem dX11_meanRank_45 : decode cX11_meanRank 45 = .ok (.goto 4, 3) := by decide +kernel
theorem dX11_meanRank_48 : decode cX11_meanRank 48 = .ok (.iconst 0, 1) := by decide +kernel
theorem dX11_meanRank_49 : decode cX11_meanRank 49 = .ok (.iconst 1, 1) := by decide +kernel
theorem dX11_meanRank_50 : decode cX11_meanRank 50 = .ok (.invokevirtual 40, 3) := by decide +kernel
theorem dX11_meanRank_53 : decode cX11_meanRank 53 = .ok (.ifCond .eq 7, 3) := by decide +kernel
theorem dX11_meanRank_56 : decode cX11_meanRank 56 = .ok (.dconst 0, 1) := by decide +kernel
theorem dX11_meanRank_57 : decode cX11_meanRank 57 = .ok (.goto 16, 3) := by decide +kernel
theorem dX11_meanRank_60 : decode cX11_meanRank 60 = .ok (.iload_n 1, 1) := by decide +kernel
theorem dX11_meanRank_61 : decode cX11_meanRank 61 = .ok (.i2d, 1) := by decide +kernel
theorem dX11_meanRank_62 : decode cX11_meanRank 62 = .ok (.aload_n 0, 1) := by decide +kernel
theorem dX11_meanRank_63 : decode cX11_meanRank 63 = .ok (.getfield 16, 3) := by decide +kernel
theorem dX11_meanRank_66 : decode cX11_meanRank 66 = .ok (.invokeinterface 30 1, 5) := by decide +kernel
theorem dX11_meanRank_71 : decode cX11_meanRank 71 = .ok (.i2d, 1) := by decide +kernel
theorem dX11_meanRank_72 : decode cX11_meanRank 72 = .ok (.ddiv, 1) := by decide +kernel
theorem dX11_meanRank_73 : decode cX11_meanRank 73 = .ok (.dreturn, 1) := by decide +kernel
theorem dX11_isSound_0 : decode cX11_isSound 0 = .ok (.iconst 1, 1) := by decide +kernel
theorem dX11_isSound_1 : decode cX11_isSound 1 = .ok (.ireturn, 1) := by decide +kernel
