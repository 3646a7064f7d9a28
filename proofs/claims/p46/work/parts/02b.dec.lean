theorem dX0_init_0 : decode cX0_init 0 = .ok (.aload_n 0, 1) := by decide +kernel
theorem dX0_init_1 : decode cX0_init 1 = .ok (.aload_n 1, 1) := by decide +kernel
theorem dX0_init_2 : decode cX0_init 2 = .ok (.aload_n 2, 1) := by decide +kernel
theorem dX0_init_3 : decode cX0_init 3 = .ok (.aload_n 3, 1) := by decide +kernel
theorem dX0_init_4 : decode cX0_init 4 = .ok (.invokespecial 1, 3) := by decide +kernel
theorem dX0_init_7 : decode cX0_init 7 = .ok (.return_, 1) := by decide +kernel
theorem dX0_settled_0 : decode cX0_settled 0 = .ok (.aload_n 0, 1) := by decide +kernel
theorem dX0_settled_1 : decode cX0_settled 1 = .ok (.getfield 7, 3) := by decide +kernel
theorem dX0_settled_4 : decode cX0_settled 4 = .ok (.aload_n 0, 1) := by decide +kernel
theorem dX0_settled_5 : decode cX0_settled 5 = .ok (.getfield 7, 3) := by decide +kernel
theorem dX0_settled_8 : decode cX0_settled 8 = .ok (.iload_n 1, 1) := by decide +kernel
theorem dX0_settled_9 : decode cX0_settled 9 = .ok (.invokevirtual 13, 3) := by decide +kernel
theorem dX0_settled_12 : decode cX0_settled 12 = .ok (.invokevirtual 13, 3) := by decide +kernel
theorem dX0_settled_15 : decode cX0_settled 15 = .ok (.ireturn, 1) := by decide +kernel
theorem dX1_init_0 : decode cX1_init 0 = .ok (.aload_n 0, 1) := by decide +kernel
theorem dX1_init_1 : decode cX1_init 1 = .ok (.invokespecial 3, 3) := by decide +kernel
theorem dX1_init_4 : decode cX1_init 4 = .ok (.aload_n 0, 1) := by decide +kernel
theorem dX1_init_5 : decode cX1_init 5 = .ok (.bipush 16, 2) := by decide +kernel
theorem dX1_init_7 : decode cX1_init 7 = .ok (.newarray .int, 2) := by decide +kernel
theorem dX1_init_9 : decode cX1_init 9 = .ok (.putfield 9, 3) := by decide +kernel
theorem dX1_init_12 : decode cX1_init 12 = .ok (.aload_n 0, 1) := by decide +kernel
theorem dX1_init_13 : decode cX1_init 13 = .ok (.bipush 16, 2) := by decide +kernel
theorem dX1_init_15 : decode cX1_init 15 = .ok (.newarray .int, 2) := by decide +kernel
theorem dX1_init_17 : decode cX1_init 17 = .ok (.putfield 15, 3) := by decide +kernel
theorem dX1_init_20 : decode cX1_init 20 = .ok (.aload_n 0, 1) := by decide +kernel
theorem dX1_init_21 : decode cX1_init 21 = .ok (.bipush 16, 2) := by decide +kernel
theorem dX1_init_23 : decode cX1_init 23 = .ok (.newarray .int, 2) := by decide +kernel
theorem dX1_init_25 : decode cX1_init 25 = .ok (.putfield 18, 3) := by decide +kernel
theorem dX1_init_28 : decode cX1_init 28 = .ok (.aload_n 0, 1) := by decide +kernel
theorem dX1_init_29 : decode cX1_init 29 = .ok (.bipush 16, 2) := by decide +kernel
theorem dX1_init_31 : decode cX1_init 31 = .ok (.newarray .int, 2) := by decide +kernel
theorem dX1_init_33 : decode cX1_init 33 = .ok (.putfield 21, 3) := by decide +kernel
theorem dX1_init_36 : decode cX1_init 36 = .ok (.aload_n 0, 1) := by decide +kernel
theorem dX1_init_37 : decode cX1_init 37 = .ok (.bipush 16, 2) := by decide +kernel
theorem dX1_init_39 : decode cX1_init 39 = .ok (.newarray .int, 2) := by decide +kernel
theorem dX1_init_41 : decode cX1_init 41 = .ok (.putfield 24, 3) := by decide +kernel
theorem dX1_init_44 : decode cX1_init 44 = .ok (.aload_n 0, 1) := by decide +kernel
theorem dX1_init_45 : decode cX1_init 45 = .ok (.bipush 16, 2) := by decide +kernel
theorem dX1_init_47 : decode cX1_init 47 = .ok (.newarray .int, 2) := by decide +kernel
theorem dX1_init_49 : decode cX1_init 49 = .ok (.putfield 27, 3) := by decide +kernel
theorem dX1_init_52 : decode cX1_init 52 = .ok (.return_, 1) := by decide +kernel
theorem dX1_size_0 : decode cX1_size 0 = .ok (.aload_n 0, 1) := by decide +kernel
theorem dX1_size_1 : decode cX1_size 1 = .ok (.getfield 30, 3) := by decide +kernel
theorem dX1_size_4 : decode cX1_size 4 = .ok (.ireturn, 1) := by decide +kernel
theorem dX1_knows_0 : decode cX1_knows 0 = .ok (.iload_n 1, 1) := by decide +kernel
theorem dX1_knows_1 : decode cX1_knows 1 = .ok (.ifCond .lt 15, 3) := by decide +kernel
theorem dX1_knows_4 : decode cX1_knows 4 = .ok (.iload_n 1, 1) := by decide +kernel
theorem dX1_knows_5 : decode cX1_knows 5 = .ok (.aload_n 0, 1) := by decide +kernel
theorem dX1_knows_6 : decode cX1_knows 6 = .ok (.getfield 30, 3) := by decide +kernel
theorem dX1_knows_9 : decode cX1_knows 9 = .ok (.if_icmp .ge 7, 3) := by decide +kernel
theorem dX1_knows_12 : decode cX1_knows 12 = .ok (.iconst 1, 1) := by decide +kernel
theorem dX1_knows_13 : decode cX1_knows 13 = .ok (.goto 4, 3) := by decide +kernel
theorem dX1_knows_16 : decode cX1_knows 16 = .ok (.iconst 0, 1) := by decide +kernel
theorem dX1_knows_17 : decode cX1_knows 17 = .ok (.ireturn, 1) := by decide +kernel
theorem dX1_add_0 : decode cX1_add 0 = .ok (.aload_n 0, 1) := by decide +kernel
theorem dX1_add_1 : decode cX1_add 1 = .ok (.getfield 30, 3) := by decide +kernel
theorem dX1_add_4 : decode cX1_add 4 = .ok (.istore 7, 2) := by decide +kernel
theorem dX1_add_6 : decode cX1_add 6 = .ok (.aload_n 0, 1) := by decide +kernel
theorem dX1_add_7 : decode cX1_add 7 = .ok (.getfield 9, 3) := by decide +kernel
theorem dX1_add_10 : decode cX1_add 10 = .ok (.iload 7, 2) := by decide +kernel
theorem dX1_add_12 : decode cX1_add 12 = .ok (.iload_n 1, 1) := by decide +kernel
theorem dX1_add_13 : decode cX1_add 13 = .ok (.invokestatic 34, 3) := by decide +kernel
theorem dX1_add_16 : decode cX1_add 16 = .ok (.aload_n 0, 1) := by decide +kernel
theorem dX1_add_17 : decode cX1_add 17 = .ok (.getfield 15, 3) := by decide +kernel
theorem dX1_add_20 : decode cX1_add 20 = .ok (.iload 7, 2) := by decide +kernel
theorem dX1_add_22 : decode cX1_add 22 = .ok (.iload_n 2, 1) := by decide +kernel
theorem dX1_add_23 : decode cX1_add 23 = .ok (.invokestatic 34, 3) := by decide +kernel
theorem dX1_add_26 : decode cX1_add 26 = .ok (.aload_n 0, 1) := by decide +kernel
theorem dX1_add_27 : decode cX1_add 27 = .ok (.getfield 18, 3) := by decide +kernel
theorem dX1_add_30 : decode cX1_add 30 = .ok (.iload 7, 2) := by decide +kernel
theorem dX1_add_32 : decode cX1_add 32 = .ok (.iload_n 3, 1) := by decide +kernel
theorem dX1_add_33 : decode cX1_add 33 = .ok (.invokestatic 34, 3) := by decide +kernel
theorem dX1_add_36 : decode cX1_add 36 = .ok (.aload_n 0, 1) := by decide +kernel
theorem dX1_add_37 : decode cX1_add 37 = .ok (.getfield 21, 3) := by decide +kernel
theorem dX1_add_40 : decode cX1_add 40 = .ok (.iload 7, 2) := by decide +kernel
theorem dX1_add_42 : decode cX1_add 42 = .ok (.iload 4, 2) := by decide +kernel
theorem dX1_add_44 : decode cX1_add 44 = .ok (.invokestatic 34, 3) := by decide +kernel
theorem dX1_add_47 : decode cX1_add 47 = .ok (.aload_n 0, 1) := by decide +kernel
theorem dX1_add_48 : decode cX1_add 48 = .ok (.getfield 24, 3) := by decide +kernel
theorem dX1_add_51 : decode cX1_add 51 = .ok (.iload 7, 2) := by decide +kernel
theorem dX1_add_53 : decode cX1_add 53 = .ok (.iload 5, 2) := by decide +kernel
theorem dX1_add_55 : decode cX1_add 55 = .ok (.invokestatic 34, 3) := by decide +kernel
theorem dX1_add_58 : decode cX1_add 58 = .ok (.aload_n 0, 1) := by decide +kernel
theorem dX1_add_59 : decode cX1_add 59 = .ok (.getfield 27, 3) := by decide +kernel
theorem dX1_add_62 : decode cX1_add 62 = .ok (.iload 7, 2) := by decide +kernel
theorem dX1_add_64 : decode cX1_add 64 = .ok (.iload 6, 2) := by decide +kernel
theorem dX1_add_66 : decode cX1_add 66 = .ok (.invokestatic 34, 3) := by decide +kernel
theorem dX1_add_69 : decode cX1_add 69 = .ok (.aload_n 0, 1) := by decide +kernel
theorem dX1_add_70 : decode cX1_add 70 = .ok (.dup, 1) := by decide +kernel
theorem dX1_add_71 : decode cX1_add 71 = .ok (.getfield 30, 3) := by decide +kernel
theorem dX1_add_74 : decode cX1_add 74 = .ok (.iconst 1, 1) := by decide +kernel
theorem dX1_add_75 : decode cX1_add 75 = .ok (.iadd, 1) := by decide +kernel
theorem dX1_add_76 : decode cX1_add 76 = .ok (.putfield 30, 3) := by decide +kernel
theorem dX1_add_79 : decode cX1_add 79 = .ok (.iload 7, 2) := by decide +kernel
theorem dX1_add_81 : decode cX1_add 81 = .ok (.ireturn, 1) := by decide +kernel
theorem dX1_removeAll_0 : decode cX1_removeAll 0 = .ok (.aload_n 0, 1) := by decide +kernel
theorem dX1_removeAll_1 : decode cX1_removeAll 1 = .ok (.getfield 30, 3) := by decide +kernel
theorem dX1_removeAll_4 : decode cX1_removeAll 4 = .ok (.istore_n 1, 1) := by decide +kernel
theorem dX1_removeAll_5 : decode cX1_removeAll 5 = .ok (.aload_n 0, 1) := by decide +kernel
theorem dX1_removeAll_6 : decode cX1_removeAll 6 = .ok (.iconst 0, 1) := by decide +kernel
theorem dX1_removeAll_7 : decode cX1_removeAll 7 = .ok (.putfield 30, 3) := by decide +kernel
theorem dX1_removeAll_10 : decode cX1_removeAll 10 = .ok (.iload_n 1, 1) := by decide +kernel
theorem dX1_removeAll_11 : decode cX1_removeAll 11 = .ok (.ireturn, 1) := by decide +kernel
theorem dX1_kind_0 : decode cX1_kind 0 = .ok (.aload_n 0, 1) := by decide +kernel
theorem dX1_kind_1 : decode cX1_kind 1 = .ok (.getfield 9, 3) := by decide +kernel
theorem dX1_kind_4 : decode cX1_kind 4 = .ok (.iload_n 1, 1) := by decide +kernel
theorem dX1_kind_5 : decode cX1_kind 5 = .ok (.invokestatic 38, 3) := by decide +kernel
theorem dX1_kind_8 : decode cX1_kind 8 = .ok (.ireturn, 1) := by decide +kernel
theorem dX1_first_0 : decode cX1_first 0 = .ok (.aload_n 0, 1) := by decide +kernel
theorem dX1_first_1 : decode cX1_first 1 = .ok (.getfield 15, 3) := by decide +kernel
theorem dX1_first_4 : decode cX1_first 4 = .ok (.iload_n 1, 1) := by decide +kernel
theorem dX1_first_5 : decode cX1_first 5 = .ok (.invokestatic 38, 3) := by decide +kernel
theorem dX1_first_8 : decode cX1_first 8 = .ok (.ireturn, 1) := by decide +kernel
theorem dX1_second_0 : decode cX1_second 0 = .ok (.aload_n 0, 1) := by decide +kernel
theorem dX1_second_1 : decode cX1_second 1 = .ok (.getfield 18, 3) := by decide +kernel
theorem dX1_second_4 : decode cX1_second 4 = .ok (.iload_n 1, 1) := by decide +kernel
theorem dX1_second_5 : decode cX1_second 5 = .ok (.invokestatic 38, 3) := by decide +kernel
theorem dX1_second_8 : decode cX1_second 8 = .ok (.ireturn, 1) := by decide +kernel
theorem dX1_letter_0 : decode cX1_letter 0 = .ok (.aload_n 0, 1) := by decide +kernel
theorem dX1_letter_1 : decode cX1_letter 1 = .ok (.getfield 21, 3) := by decide +kernel
theorem dX1_letter_4 : decode cX1_letter 4 = .ok (.iload_n 1, 1) := by decide +kernel
theorem dX1_letter_5 : decode cX1_letter 5 = .ok (.invokestatic 38, 3) := by decide +kernel
theorem dX1_letter_8 : decode cX1_letter 8 = .ok (.ireturn, 1) := by decide +kernel
theorem dX1_depth_0 : decode cX1_depth 0 = .ok (.aload_n 0, 1) := by decide +kernel
theorem dX1_depth_1 : decode cX1_depth 1 = .ok (.getfield 24, 3) := by decide +kernel
theorem dX1_depth_4 : decode cX1_depth 4 = .ok (.iload_n 1, 1) := by decide +kernel
theorem dX1_depth_5 : decode cX1_depth 5 = .ok (.invokestatic 38, 3) := by decide +kernel
theorem dX1_depth_8 : decode cX1_depth 8 = .ok (.ireturn, 1) := by decide +kernel
theorem dX1_open_0 : decode cX1_open 0 = .ok (.aload_n 0, 1) := by decide +kernel
theorem dX1_open_1 : decode cX1_open 1 = .ok (.getfield 27, 3) := by decide +kernel
theorem dX1_open_4 : decode cX1_open 4 = .ok (.iload_n 1, 1) := by decide +kernel
theorem dX1_open_5 : decode cX1_open 5 = .ok (.invokestatic 38, 3) := by decide +kernel
theorem dX1_open_8 : decode cX1_open 8 = .ok (.ireturn, 1) := by decide +kernel
theorem dX2_init_0 : decode cX2_init 0 = .ok (.aload_n 0, 1) := by decide +kernel
theorem dX2_init_1 : decode cX2_init 1 = .ok (.invokespecial 3, 3) := by decide +kernel
theorem dX2_init_4 : decode cX2_init 4 = .ok (.aload_n 0, 1) := by decide +kernel
theorem dX2_init_5 : decode cX2_init 5 = .ok (.bipush 12, 2) := by decide +kernel
theorem dX2_init_7 : decode cX2_init 7 = .ok (.newarray .int, 2) := by decide +kernel
theorem dX2_init_9 : decode cX2_init 9 = .ok (.putfield 9, 3) := by decide +kernel
theorem dX2_init_12 : decode cX2_init 12 = .ok (.aload_n 0, 1) := by decide +kernel
theorem dX2_init_13 : decode cX2_init 13 = .ok (.bipush 48, 2) := by decide +kernel
theorem dX2_init_15 : decode cX2_init 15 = .ok (.newarray .int, 2) := by decide +kernel
theorem dX2_init_17 : decode cX2_init 17 = .ok (.putfield 15, 3) := by decide +kernel
theorem dX2_init_20 : decode cX2_init 20 = .ok (.aload_n 0, 1) := by decide +kernel
theorem dX2_init_21 : decode cX2_init 21 = .ok (.bipush 12, 2) := by decide +kernel
theorem dX2_init_23 : decode cX2_init 23 = .ok (.newarray .int, 2) := by decide +kernel
theorem dX2_init_25 : decode cX2_init 25 = .ok (.putfield 18, 3) := by decide +kernel
theorem dX2_init_28 : decode cX2_init 28 = .ok (.aload_n 0, 1) := by decide +kernel
theorem dX2_init_29 : decode cX2_init 29 = .ok (.bipush 12, 2) := by decide +kernel
theorem dX2_init_31 : decode cX2_init 31 = .ok (.newarray .int, 2) := by decide +kernel
theorem dX2_init_33 : decode cX2_init 33 = .ok (.putfield 21, 3) := by decide +kernel
theorem dX2_init_36 : decode cX2_init 36 = .ok (.aload_n 0, 1) := by decide +kernel
theorem dX2_init_37 : decode cX2_init 37 = .ok (.iconst 4, 1) := by decide +kernel
theorem dX2_init_38 : decode cX2_init 38 = .ok (.newarray .int, 2) := by decide +kernel
theorem dX2_init_40 : decode cX2_init 40 = .ok (.putfield 24, 3) := by decide +kernel
theorem dX2_init_43 : decode cX2_init 43 = .ok (.aload_n 0, 1) := by decide +kernel
theorem dX2_init_44 : decode cX2_init 44 = .ok (.bipush 16, 2) := by decide +kernel
theorem dX2_init_46 : decode cX2_init 46 = .ok (.newarray .int, 2) := by decide +kernel
theorem dX2_init_48 : decode cX2_init 48 = .ok (.putfield 27, 3) := by decide +kernel
theorem dX2_init_51 : decode cX2_init 51 = .ok (.aload_n 0, 1) := by decide +kernel
theorem dX2_init_52 : decode cX2_init 52 = .ok (.aload_n 1, 1) := by decide +kernel
theorem dX2_init_53 : decode cX2_init 53 = .ok (.putfield 30, 3) := by decide +kernel
theorem dX2_init_56 : decode cX2_init 56 = .ok (.return_, 1) := by decide +kernel
theorem dX2_size_0 : decode cX2_size 0 = .ok (.aload_n 0, 1) := by decide +kernel
theorem dX2_size_1 : decode cX2_size 1 = .ok (.getfield 34, 3) := by decide +kernel
theorem dX2_size_4 : decode cX2_size 4 = .ok (.ireturn, 1) := by decide +kernel
theorem dX2_changes_0 : decode cX2_changes 0 = .ok (.aload_n 0, 1) := by decide +kernel
theorem dX2_changes_1 : decode cX2_changes 1 = .ok (.getfield 38, 3) := by decide +kernel
theorem dX2_changes_4 : decode cX2_changes 4 = .ok (.ireturn, 1) := by decide +kernel
theorem dX2_knows_0 : decode cX2_knows 0 = .ok (.iload_n 1, 1) := by decide +kernel
theorem dX2_knows_1 : decode cX2_knows 1 = .ok (.ifCond .lt 15, 3) := by decide +kernel
theorem dX2_knows_4 : decode cX2_knows 4 = .ok (.iload_n 1, 1) := by decide +kernel
theorem dX2_knows_5 : decode cX2_knows 5 = .ok (.aload_n 0, 1) := by decide +kernel
theorem dX2_knows_6 : decode cX2_knows 6 = .ok (.getfield 34, 3) := by decide +kernel
theorem dX2_knows_9 : decode cX2_knows 9 = .ok (.if_icmp .ge 7, 3) := by decide +kernel
theorem dX2_knows_12 : decode cX2_knows 12 = .ok (.iconst 1, 1) := by decide +kernel
theorem dX2_knows_13 : decode cX2_knows 13 = .ok (.goto 4, 3) := by decide +kernel
theorem dX2_knows_16 : decode cX2_knows 16 = .ok (.iconst 0, 1) := by decide +kernel
theorem dX2_knows_17 : decode cX2_knows 17 = .ok (.ireturn, 1) := by decide +kernel
theorem dX2_pairsOf_0 : decode cX2_pairsOf 0 = .ok (.aload_n 0, 1) := by decide +kernel
theorem dX2_pairsOf_1 : decode cX2_pairsOf 1 = .ok (.getfield 9, 3) := by decide +kernel
theorem dX2_pairsOf_4 : decode cX2_pairsOf 4 = .ok (.iload_n 1, 1) := by decide +kernel
theorem dX2_pairsOf_5 : decode cX2_pairsOf 5 = .ok (.invokestatic 41, 3) := by decide +kernel
theorem dX2_pairsOf_8 : decode cX2_pairsOf 8 = .ok (.ireturn, 1) := by decide +kernel
theorem dX2_lower_0 : decode cX2_lower 0 = .ok (.aload_n 0, 1) := by decide +kernel
theorem dX2_lower_1 : decode cX2_lower 1 = .ok (.getfield 15, 3) := by decide +kernel
theorem dX2_lower_4 : decode cX2_lower 4 = .ok (.iload_n 1, 1) := by decide +kernel
theorem dX2_lower_5 : decode cX2_lower 5 = .ok (.iconst 4, 1) := by decide +kernel
theorem dX2_lower_6 : decode cX2_lower 6 = .ok (.imul, 1) := by decide +kernel
theorem dX2_lower_7 : decode cX2_lower 7 = .ok (.iload_n 2, 1) := by decide +kernel
theorem dX2_lower_8 : decode cX2_lower 8 = .ok (.iadd, 1) := by decide +kernel
theorem dX2_lower_9 : decode cX2_lower 9 = .ok (.invokestatic 41, 3) := by decide +kernel
theorem dX2_lower_12 : decode cX2_lower 12 = .ok (.bipush 15, 2) := by decide +kernel
theorem dX2_lower_14 : decode cX2_lower 14 = .ok (.iand, 1) := by decide +kernel
theorem dX2_lower_15 : decode cX2_lower 15 = .ok (.ireturn, 1) := by decide +kernel
theorem dX2_promise_0 : decode cX2_promise 0 = .ok (.aload_n 0, 1) := by decide +kernel
theorem dX2_promise_1 : decode cX2_promise 1 = .ok (.getfield 15, 3) := by decide +kernel
theorem dX2_promise_4 : decode cX2_promise 4 = .ok (.iload_n 1, 1) := by decide +kernel
theorem dX2_promise_5 : decode cX2_promise 5 = .ok (.iconst 4, 1) := by decide +kernel
theorem dX2_promise_6 : decode cX2_promise 6 = .ok (.imul, 1) := by decide +kernel
theorem dX2_promise_7 : decode cX2_promise 7 = .ok (.iload_n 2, 1) := by decide +kernel
theorem dX2_promise_8 : decode cX2_promise 8 = .ok (.iadd, 1) := by decide +kernel
theorem dX2_promise_9 : decode cX2_promise 9 = .ok (.invokestatic 41, 3) := by decide +kernel
theorem dX2_promise_12 : decode cX2_promise 12 = .ok (.iconst 4, 1) := by decide +kernel
theorem dX2_promise_13 : decode cX2_promise 13 = .ok (.ishr, 1) := by decide +kernel
theorem dX2_promise_14 : decode cX2_promise 14 = .ok (.ireturn, 1) := by decide +kernel
theorem dX2_height_0 : decode cX2_height 0 = .ok (.aload_n 0, 1) := by decide +kernel
theorem dX2_height_1 : decode cX2_height 1 = .ok (.getfield 18, 3) := by decide +kernel
theorem dX2_height_4 : decode cX2_height 4 = .ok (.iload_n 1, 1) := by decide +kernel
theorem dX2_height_5 : decode cX2_height 5 = .ok (.invokestatic 41, 3) := by decide +kernel
theorem dX2_height_8 : decode cX2_height 8 = .ok (.ireturn, 1) := by decide +kernel
theorem dX2_hasPair_0 : decode cX2_hasPair 0 = .ok (.iconst 0, 1) := by decide +kernel
theorem dX2_hasPair_1 : decode cX2_hasPair 1 = .ok (.istore 4, 2) := by decide +kernel
theorem dX2_hasPair_3 : decode cX2_hasPair 3 = .ok (.iload 4, 2) := by decide +kernel
theorem dX2_hasPair_5 : decode cX2_hasPair 5 = .ok (.aload_n 0, 1) := by decide +kernel
theorem dX2_hasPair_6 : decode cX2_hasPair 6 = .ok (.iload_n 1, 1) := by decide +kernel
theorem dX2_hasPair_7 : decode cX2_hasPair 7 = .ok (.invokevirtual 45, 3) := by decide +kernel
theorem dX2_hasPair_10 : decode cX2_hasPair 10 = .ok (.if_icmp .ge 33, 3) := by decide +kernel
theorem dX2_hasPair_13 : decode cX2_hasPair 13 = .ok (.aload_n 0, 1) := by decide +kernel
theorem dX2_hasPair_14 : decode cX2_hasPair 14 = .ok (.iload_n 1, 1) := by decide +kernel
theorem dX2_hasPair_15 : decode cX2_hasPair 15 = .ok (.iload 4, 2) := by decide +kernel
theorem dX2_hasPair_17 : decode cX2_hasPair 17 = .ok (.invokevirtual 49, 3) := by decide +kernel
theorem dX2_hasPair_20 : decode cX2_hasPair 20 = .ok (.iload_n 2, 1) := by decide +kernel
theorem dX2_hasPair_21 : decode cX2_hasPair 21 = .ok (.if_icmp .ne 16, 3) := by decide +kernel
theorem dX2_hasPair_24 : decode cX2_hasPair 24 = .ok (.aload_n 0, 1) := by decide +kernel
theorem dX2_hasPair_25 : decode cX2_hasPair 25 = .ok (.iload_n 1, 1) := by decide +kernel
theorem dX2_hasPair_26 : decode cX2_hasPair 26 = .ok (.iload 4, 2) := by decide +kernel
theorem dX2_hasPair_28 : decode cX2_hasPair 28 = .ok (.invokevirtual 53, 3) := by decide +kernel
theorem dX2_hasPair_31 : decode cX2_hasPair 31 = .ok (.iload_n 3, 1) := by decide +kernel
theorem dX2_hasPair_32 : decode cX2_hasPair 32 = .ok (.if_icmp .ne 5, 3) := by decide +kernel
theorem dX2_hasPair_35 : decode cX2_hasPair 35 = .ok (.iconst 1, 1) := by decide +kernel
theorem dX2_hasPair_36 : decode cX2_hasPair 36 = .ok (.ireturn, 1) := by decide +kernel
theorem dX2_hasPair_37 : decode cX2_hasPair 37 = .ok (.iinc 4 1, 3) := by decide +kernel
theorem dX2_hasPair_40 : decode cX2_hasPair 40 = .ok (.goto (-37), 3) := by decide +kernel
theorem dX2_hasPair_43 : decode cX2_hasPair 43 = .ok (.iconst 0, 1) := by decide +kernel
theorem dX2_hasPair_44 : decode cX2_hasPair 44 = .ok (.ireturn, 1) := by decide +kernel
theorem dX2_add_0 : decode cX2_add 0 = .ok (.aload_n 0, 1) := by decide +kernel
theorem dX2_add_1 : decode cX2_add 1 = .ok (.getfield 34, 3) := by decide +kernel
theorem dX2_add_4 : decode cX2_add 4 = .ok (.istore_n 1, 1) := by decide +kernel
theorem dX2_add_5 : decode cX2_add 5 = .ok (.aload_n 0, 1) := by decide +kernel
theorem dX2_add_6 : decode cX2_add 6 = .ok (.dup, 1) := by decide +kernel
theorem dX2_add_7 : decode cX2_add 7 = .ok (.getfield 34, 3) := by decide +kernel
theorem dX2_add_10 : decode cX2_add 10 = .ok (.iconst 1, 1) := by decide +kernel
theorem dX2_add_11 : decode cX2_add 11 = .ok (.iadd, 1) := by decide +kernel
theorem dX2_add_12 : decode cX2_add 12 = .ok (.putfield 34, 3) := by decide +kernel
theorem dX2_add_15 : decode cX2_add 15 = .ok (.aload_n 0, 1) := by decide +kernel
theorem dX2_add_16 : decode cX2_add 16 = .ok (.invokevirtual 56, 3) := by decide +kernel
theorem dX2_add_19 : decode cX2_add 19 = .ok (.iload_n 1, 1) := by decide +kernel
theorem dX2_add_20 : decode cX2_add 20 = .ok (.ireturn, 1) := by decide +kernel
theorem dX2_addPair_0 : decode cX2_addPair 0 = .ok (.aload_n 0, 1) := by decide +kernel
theorem dX2_addPair_1 : decode cX2_addPair 1 = .ok (.iload_n 1, 1) := by decide +kernel
theorem dX2_addPair_2 : decode cX2_addPair 2 = .ok (.invokevirtual 45, 3) := by decide +kernel
theorem dX2_addPair_5 : decode cX2_addPair 5 = .ok (.istore 4, 2) := by decide +kernel
theorem dX2_addPair_7 : decode cX2_addPair 7 = .ok (.iload 4, 2) := by decide +kernel
theorem dX2_addPair_9 : decode cX2_addPair 9 = .ok (.iconst 4, 1) := by decide +kernel
theorem dX2_addPair_10 : decode cX2_addPair 10 = .ok (.if_icmp .ge 38, 3) := by decide +kernel
theorem dX2_addPair_13 : decode cX2_addPair 13 = .ok (.aload_n 0, 1) := by decide +kernel
theorem dX2_addPair_14 : decode cX2_addPair 14 = .ok (.getfield 15, 3) := by decide +kernel
theorem dX2_addPair_17 : decode cX2_addPair 17 = .ok (.iload_n 1, 1) := by decide +kernel
theorem dX2_addPair_18 : decode cX2_addPair 18 = .ok (.iconst 4, 1) := by decide +kernel
theorem dX2_addPair_19 : decode cX2_addPair 19 = .ok (.imul, 1) := by decide +kernel
theorem dX2_addPair_20 : decode cX2_addPair 20 = .ok (.iload 4, 2) := by decide +kernel
theorem dX2_addPair_22 : decode cX2_addPair 22 = .ok (.iadd, 1) := by decide +kernel
theorem dX2_addPair_23 : decode cX2_addPair 23 = .ok (.iload_n 2, 1) := by decide +kernel
theorem dX2_addPair_24 : decode cX2_addPair 24 = .ok (.bipush 16, 2) := by decide +kernel
theorem dX2_addPair_26 : decode cX2_addPair 26 = .ok (.iload_n 3, 1) := by decide +kernel
theorem dX2_addPair_27 : decode cX2_addPair 27 = .ok (.imul, 1) := by decide +kernel
theorem dX2_addPair_28 : decode cX2_addPair 28 = .ok (.iadd, 1) := by decide +kernel
theorem dX2_addPair_29 : decode cX2_addPair 29 = .ok (.invokestatic 59, 3) := by decide +kernel
theorem dX2_addPair_32 : decode cX2_addPair 32 = .ok (.aload_n 0, 1) := by decide +kernel
theorem dX2_addPair_33 : decode cX2_addPair 33 = .ok (.getfield 9, 3) := by decide +kernel
theorem dX2_addPair_36 : decode cX2_addPair 36 = .ok (.iload_n 1, 1) := by decide +kernel
theorem dX2_addPair_37 : decode cX2_addPair 37 = .ok (.iload 4, 2) := by decide +kernel
theorem dX2_addPair_39 : decode cX2_addPair 39 = .ok (.iconst 1, 1) := by decide +kernel
theorem dX2_addPair_40 : decode cX2_addPair 40 = .ok (.iadd, 1) := by decide +kernel
theorem dX2_addPair_41 : decode cX2_addPair 41 = .ok (.invokestatic 59, 3) := by decide +kernel
theorem dX2_addPair_44 : decode cX2_addPair 44 = .ok (.aload_n 0, 1) := by decide +kernel
theorem dX2_addPair_45 : decode cX2_addPair 45 = .ok (.invokevirtual 56, 3) := by decide +kernel
theorem dX2_addPair_48 : decode cX2_addPair 48 = .ok (.return_, 1) := by decide +kernel
theorem dX2_dropPair_0 : decode cX2_dropPair 0 = .ok (.aload_n 0, 1) := by decide +kernel
theorem dX2_dropPair_1 : decode cX2_dropPair 1 = .ok (.getfield 9, 3) := by decide +kernel
theorem dX2_dropPair_4 : decode cX2_dropPair 4 = .ok (.iload_n 1, 1) := by decide +kernel
theorem dX2_dropPair_5 : decode cX2_dropPair 5 = .ok (.iconst 0, 1) := by decide +kernel
theorem dX2_dropPair_6 : decode cX2_dropPair 6 = .ok (.aload_n 0, 1) := by decide +kernel
theorem dX2_dropPair_7 : decode cX2_dropPair 7 = .ok (.iload_n 1, 1) := by decide +kernel
theorem dX2_dropPair_8 : decode cX2_dropPair 8 = .ok (.invokevirtual 45, 3) := by decide +kernel
theorem dX2_dropPair_11 : decode cX2_dropPair 11 = .ok (.iconst 1, 1) := by decide +kernel
theorem dX2_dropPair_12 : decode cX2_dropPair 12 = .ok (.isub, 1) := by decide +kernel
theorem dX2_dropPair_13 : decode cX2_dropPair 13 = .ok (.invokestatic 63, 3) := by decide +kernel
theorem dX2_dropPair_16 : decode cX2_dropPair 16 = .ok (.invokestatic 59, 3) := by decide +kernel
theorem dX2_dropPair_19 : decode cX2_dropPair 19 = .ok (.aload_n 0, 1) := by decide +kernel
theorem dX2_dropPair_20 : decode cX2_dropPair 20 = .ok (.invokevirtual 56, 3) := by decide +kernel
theorem dX2_dropPair_23 : decode cX2_dropPair 23 = .ok (.return_, 1) := by decide +kernel
theorem dX2_changed_0 : decode cX2_changed 0 = .ok (.aload_n 0, 1) := by decide +kernel
theorem dX2_changed_1 : decode cX2_changed 1 = .ok (.dup, 1) := by decide +kernel
theorem dX2_changed_2 : decode cX2_changed 2 = .ok (.getfield 38, 3) := by decide +kernel
theorem dX2_changed_5 : decode cX2_changed 5 = .ok (.iconst 1, 1) := by decide +kernel
theorem dX2_changed_6 : decode cX2_changed 6 = .ok (.iadd, 1) := by decide +kernel
theorem dX2_changed_7 : decode cX2_changed 7 = .ok (.putfield 38, 3) := by decide +kernel
theorem dX2_changed_10 : decode cX2_changed 10 = .ok (.aload_n 0, 1) := by decide +kernel
theorem dX2_changed_11 : decode cX2_changed 11 = .ok (.aload_n 0, 1) := by decide +kernel
theorem dX2_changed_12 : decode cX2_changed 12 = .ok (.getfield 18, 3) := by decide +kernel
theorem dX2_changed_15 : decode cX2_changed 15 = .ok (.iconst (-1), 1) := by decide +kernel
theorem dX2_changed_16 : decode cX2_changed 16 = .ok (.iconst (-1), 1) := by decide +kernel
theorem dX2_changed_17 : decode cX2_changed 17 = .ok (.invokevirtual 68, 3) := by decide +kernel
theorem dX2_changed_20 : decode cX2_changed 20 = .ok (.return_, 1) := by decide +kernel
theorem dX2_rankAll_0 : decode cX2_rankAll 0 = .ok (.iconst 0, 1) := by decide +kernel
theorem dX2_rankAll_1 : decode cX2_rankAll 1 = .ok (.istore 4, 2) := by decide +kernel
theorem dX2_rankAll_3 : decode cX2_rankAll 3 = .ok (.iload 4, 2) := by decide +kernel
theorem dX2_rankAll_5 : decode cX2_rankAll 5 = .ok (.aload_n 0, 1) := by decide +kernel
theorem dX2_rankAll_6 : decode cX2_rankAll 6 = .ok (.getfield 34, 3) := by decide +kernel
theorem dX2_rankAll_9 : decode cX2_rankAll 9 = .ok (.if_icmp .ge 77, 3) := by decide +kernel
theorem dX2_rankAll_12 : decode cX2_rankAll 12 = .ok (.iload 4, 2) := by decide +kernel
theorem dX2_rankAll_14 : decode cX2_rankAll 14 = .ok (.iload_n 2, 1) := by decide +kernel
theorem dX2_rankAll_15 : decode cX2_rankAll 15 = .ok (.if_icmp .ne 13, 3) := by decide +kernel
theorem dX2_rankAll_18 : decode cX2_rankAll 18 = .ok (.iconst 1, 1) := by decide +kernel
theorem dX2_rankAll_19 : decode cX2_rankAll 19 = .ok (.aload_n 1, 1) := by decide +kernel
theorem dX2_rankAll_20 : decode cX2_rankAll 20 = .ok (.iload_n 3, 1) := by decide +kernel
theorem dX2_rankAll_21 : decode cX2_rankAll 21 = .ok (.invokestatic 41, 3) := by decide +kernel
theorem dX2_rankAll_24 : decode cX2_rankAll 24 = .ok (.iadd, 1) := by decide +kernel
theorem dX2_rankAll_25 : decode cX2_rankAll 25 = .ok (.goto 4, 3) := by decide +kernel
theorem dX2_rankAll_28 : decode cX2_rankAll 28 = .ok (.iconst 0, 1) := by decide +kernel
theorem dX2_rankAll_29 : decode cX2_rankAll 29 = .ok (.istore 5, 2) := by decide +kernel
theorem dX2_rankAll_31 : decode cX2_rankAll 31 = .ok (.iconst 0, 1) := by decide +kernel
theorem dX2_rankAll_32 : decode cX2_rankAll 32 = .ok (.istore 6, 2) := by decide +kernel
theorem dX2_rankAll_34 : decode cX2_rankAll 34 = .ok (.iload 6, 2) := by decide +kernel
theorem dX2_rankAll_36 : decode cX2_rankAll 36 = .ok (.aload_n 0, 1) := by decide +kernel
theorem dX2_rankAll_37 : decode cX2_rankAll 37 = .ok (.iload 4, 2) := by decide +kernel
theorem dX2_rankAll_39 : decode cX2_rankAll 39 = .ok (.invokevirtual 45, 3) := by decide +kernel
theorem dX2_rankAll_42 : decode cX2_rankAll 42 = .ok (.if_icmp .ge 30, 3) := by decide +kernel
theorem dX2_rankAll_45 : decode cX2_rankAll 45 = .ok (.iload 5, 2) := by decide +kernel
theorem dX2_rankAll_47 : decode cX2_rankAll 47 = .ok (.iconst 1, 1) := by decide +kernel
theorem dX2_rankAll_48 : decode cX2_rankAll 48 = .ok (.aload_n 1, 1) := by decide +kernel
theorem dX2_rankAll_49 : decode cX2_rankAll 49 = .ok (.aload_n 0, 1) := by decide +kernel
theorem dX2_rankAll_50 : decode cX2_rankAll 50 = .ok (.iload 4, 2) := by decide +kernel
theorem dX2_rankAll_52 : decode cX2_rankAll 52 = .ok (.iload 6, 2) := by decide +kernel
theorem dX2_rankAll_54 : decode cX2_rankAll 54 = .ok (.invokevirtual 49, 3) := by decide +kernel
theorem dX2_rankAll_57 : decode cX2_rankAll 57 = .ok (.invokestatic 41, 3) := by decide +kernel
theorem dX2_rankAll_60 : decode cX2_rankAll 60 = .ok (.iadd, 1) := by decide +kernel
theorem dX2_rankAll_61 : decode cX2_rankAll 61 = .ok (.invokestatic 63, 3) := by decide +kernel
theorem dX2_rankAll_64 : decode cX2_rankAll 64 = .ok (.istore 5, 2) := by decide +kernel
theorem dX2_rankAll_66 : decode cX2_rankAll 66 = .ok (.iinc 6 1, 3) := by decide +kernel
theorem dX2_rankAll_69 : decode cX2_rankAll 69 = .ok (.goto (-35), 3) := by decide +kernel
theorem dX2_rankAll_72 : decode cX2_rankAll 72 = .ok (.aload_n 1, 1) := by decide +kernel
theorem dX2_rankAll_73 : decode cX2_rankAll 73 = .ok (.iload 4, 2) := by decide +kernel
theorem dX2_rankAll_75 : decode cX2_rankAll 75 = .ok (.iload 5, 2) := by decide +kernel
theorem dX2_rankAll_77 : decode cX2_rankAll 77 = .ok (.invokestatic 59, 3) := by decide +kernel
theorem dX2_rankAll_80 : decode cX2_rankAll 80 = .ok (.iinc 4 1, 3) := by decide +kernel
theorem dX2_rankAll_83 : decode cX2_rankAll 83 = .ok (.goto (-80), 3) := by decide +kernel
theorem dX2_rankAll_86 : decode cX2_rankAll 86 = .ok (.return_, 1) := by decide +kernel
theorem dX2_wouldRiseTooHigh_0 : decode cX2_wouldRiseTooHigh 0 = .ok (.aload_n 0, 1) := by decide +kernel
theorem dX2_wouldRiseTooHigh_1 : decode cX2_wouldRiseTooHigh 1 = .ok (.aload_n 0, 1) := by decide +kernel
theorem dX2_wouldRiseTooHigh_2 : decode cX2_wouldRiseTooHigh 2 = .ok (.getfield 21, 3) := by decide +kernel
theorem dX2_wouldRiseTooHigh_5 : decode cX2_wouldRiseTooHigh 5 = .ok (.iload_n 1, 1) := by decide +kernel
theorem dX2_wouldRiseTooHigh_6 : decode cX2_wouldRiseTooHigh 6 = .ok (.iload_n 2, 1) := by decide +kernel
theorem dX2_wouldRiseTooHigh_7 : decode cX2_wouldRiseTooHigh 7 = .ok (.invokevirtual 68, 3) := by decide +kernel
theorem dX2_wouldRiseTooHigh_10 : decode cX2_wouldRiseTooHigh 10 = .ok (.iconst 0, 1) := by decide +kernel
theorem dX2_wouldRiseTooHigh_11 : decode cX2_wouldRiseTooHigh 11 = .ok (.istore_n 3, 1) := by decide +kernel
theorem dX2_wouldRiseTooHigh_12 : decode cX2_wouldRiseTooHigh 12 = .ok (.iload_n 3, 1) := by decide +kernel
theorem dX2_wouldRiseTooHigh_13 : decode cX2_wouldRiseTooHigh 13 = .ok (.aload_n 0, 1) := by decide +kernel
theorem dX2_wouldRiseTooHigh_14 : decode cX2_wouldRiseTooHigh 14 = .ok (.getfield 34, 3) := by decide +kernel
theorem dX2_wouldRiseTooHigh_17 : decode cX2_wouldRiseTooHigh 17 = .ok (.if_icmp .ge 23, 3) := by decide +kernel
theorem dX2_wouldRiseTooHigh_20 : decode cX2_wouldRiseTooHigh 20 = .ok (.aload_n 0, 1) := by decide +kernel
theorem dX2_wouldRiseTooHigh_21 : decode cX2_wouldRiseTooHigh 21 = .ok (.getfield 21, 3) := by decide +kernel
theorem dX2_wouldRiseTooHigh_24 : decode cX2_wouldRiseTooHigh 24 = .ok (.iload_n 3, 1) := by decide +kernel
theorem dX2_wouldRiseTooHigh_25 : decode cX2_wouldRiseTooHigh 25 = .ok (.invokestatic 41, 3) := by decide +kernel
theorem dX2_wouldRiseTooHigh_28 : decode cX2_wouldRiseTooHigh 28 = .ok (.iconst 3, 1) := by decide +kernel
theorem dX2_wouldRiseTooHigh_29 : decode cX2_wouldRiseTooHigh 29 = .ok (.if_icmp .le 5, 3) := by decide +kernel
theorem dX2_wouldRiseTooHigh_32 : decode cX2_wouldRiseTooHigh 32 = .ok (.iconst 1, 1) := by decide +kernel
theorem dX2_wouldRiseTooHigh_33 : decode cX2_wouldRiseTooHigh 33 = .ok (.ireturn, 1) := by decide +kernel
theorem dX2_wouldRiseTooHigh_34 : decode cX2_wouldRiseTooHigh 34 = .ok (.iinc 3 1, 3) := by decide +kernel
theorem dX2_wouldRiseTooHigh_37 : decode cX2_wouldRiseTooHigh 37 = .ok (.goto (-25), 3) := by decide +kernel
theorem dX2_wouldRiseTooHigh_40 : decode cX2_wouldRiseTooHigh 40 = .ok (.iconst 0, 1) := by decide +kernel
theorem dX2_wouldRiseTooHigh_41 : decode cX2_wouldRiseTooHigh 41 = .ok (.ireturn, 1) := by decide +kernel
theorem dX2_standardOf_0 : decode cX2_standardOf 0 = .ok (.aload_n 0, 1) := by decide +kernel
theorem dX2_standardOf_1 : decode cX2_standardOf 1 = .ok (.getfield 27, 3) := by decide +kernel
theorem dX2_standardOf_4 : decode cX2_standardOf 4 = .ok (.iload_n 1, 1) := by decide +kernel
theorem dX2_standardOf_5 : decode cX2_standardOf 5 = .ok (.invokestatic 41, 3) := by decide +kernel
theorem dX2_standardOf_8 : decode cX2_standardOf 8 = .ok (.iconst 1, 1) := by decide +kernel
theorem dX2_standardOf_9 : decode cX2_standardOf 9 = .ok (.isub, 1) := by decide +kernel
theorem dX2_standardOf_10 : decode cX2_standardOf 10 = .ok (.ireturn, 1) := by decide +kernel
theorem dX2_isStandard_0 : decode cX2_isStandard 0 = .ok (.iconst 0, 1) := by decide +kernel
theorem dX2_isStandard_1 : decode cX2_isStandard 1 = .ok (.istore_n 2, 1) := by decide +kernel
theorem dX2_isStandard_2 : decode cX2_isStandard 2 = .ok (.iload_n 2, 1) := by decide +kernel
theorem dX2_isStandard_3 : decode cX2_isStandard 3 = .ok (.bipush 16, 2) := by decide +kernel
theorem dX2_isStandard_5 : decode cX2_isStandard 5 = .ok (.if_icmp .ge 20, 3) := by decide +kernel
theorem dX2_isStandard_8 : decode cX2_isStandard 8 = .ok (.aload_n 0, 1) := by decide +kernel
theorem dX2_isStandard_9 : decode cX2_isStandard 9 = .ok (.iload_n 2, 1) := by decide +kernel
theorem dX2_isStandard_10 : decode cX2_isStandard 10 = .ok (.invokevirtual 71, 3) := by decide +kernel
theorem dX2_isStandard_13 : decode cX2_isStandard 13 = .ok (.iload_n 1, 1) := by decide +kernel
theorem dX2_isStandard_14 : decode cX2_isStandard 14 = .ok (.if_icmp .ne 5, 3) := by decide +kernel
theorem dX2_isStandard_17 : decode cX2_isStandard 17 = .ok (.iconst 1, 1) := by decide +kernel
theorem dX2_isStandard_18 : decode cX2_isStandard 18 = .ok (.ireturn, 1) := by decide +kernel
theorem dX2_isStandard_19 : decode cX2_isStandard 19 = .ok (.iinc 2 1, 3) := by decide +kernel
theorem dX2_isStandard_22 : decode cX2_isStandard 22 = .ok (.goto (-20), 3) := by decide +kernel
theorem dX2_isStandard_25 : decode cX2_isStandard 25 = .ok (.iconst 0, 1) := by decide +kernel
theorem dX2_isStandard_26 : decode cX2_isStandard 26 = .ok (.ireturn, 1) := by decide +kernel
theorem dX2_missingFor_0 : decode cX2_missingFor 0 = .ok (.iconst 1, 1) := by decide +kernel
theorem dX2_missingFor_1 : decode cX2_missingFor 1 = .ok (.iload_n 1, 1) := by decide +kernel
theorem dX2_missingFor_2 : decode cX2_missingFor 2 = .ok (.ishl, 1) := by decide +kernel
theorem dX2_missingFor_3 : decode cX2_missingFor 3 = .ok (.istore_n 2, 1) := by decide +kernel
theorem dX2_missingFor_4 : decode cX2_missingFor 4 = .ok (.iconst 0, 1) := by decide +kernel
theorem dX2_missingFor_5 : decode cX2_missingFor 5 = .ok (.istore_n 3, 1) := by decide +kernel
theorem dX2_missingFor_6 : decode cX2_missingFor 6 = .ok (.iload_n 1, 1) := by decide +kernel
theorem dX2_missingFor_7 : decode cX2_missingFor 7 = .ok (.istore 4, 2) := by decide +kernel
theorem dX2_missingFor_9 : decode cX2_missingFor 9 = .ok (.iload 4, 2) := by decide +kernel
theorem dX2_missingFor_11 : decode cX2_missingFor 11 = .ok (.ifCond .lt 40, 3) := by decide +kernel
theorem dX2_missingFor_14 : decode cX2_missingFor 14 = .ok (.iload_n 2, 1) := by decide +kernel
theorem dX2_missingFor_15 : decode cX2_missingFor 15 = .ok (.iload 4, 2) := by decide +kernel
theorem dX2_missingFor_17 : decode cX2_missingFor 17 = .ok (.invokestatic 74, 3) := by decide +kernel
theorem dX2_missingFor_20 : decode cX2_missingFor 20 = .ok (.ifCond .eq 25, 3) := by decide +kernel
theorem dX2_missingFor_23 : decode cX2_missingFor 23 = .ok (.iload_n 2, 1) := by decide +kernel
theorem dX2_missingFor_24 : decode cX2_missingFor 24 = .ok (.iload 4, 2) := by decide +kernel
theorem dX2_missingFor_26 : decode cX2_missingFor 26 = .ok (.ior, 1) := by decide +kernel
theorem dX2_missingFor_27 : decode cX2_missingFor 27 = .ok (.istore_n 2, 1) := by decide +kernel
theorem dX2_missingFor_28 : decode cX2_missingFor 28 = .ok (.aload_n 0, 1) := by decide +kernel
theorem dX2_missingFor_29 : decode cX2_missingFor 29 = .ok (.iload 4, 2) := by decide +kernel
theorem dX2_missingFor_31 : decode cX2_missingFor 31 = .ok (.invokevirtual 71, 3) := by decide +kernel
theorem dX2_missingFor_34 : decode cX2_missingFor 34 = .ok (.iconst (-1), 1) := by decide +kernel
theorem dX2_missingFor_35 : decode cX2_missingFor 35 = .ok (.if_icmp .ne 10, 3) := by decide +kernel
theorem dX2_missingFor_38 : decode cX2_missingFor 38 = .ok (.iload_n 3, 1) := by decide +kernel
theorem dX2_missingFor_39 : decode cX2_missingFor 39 = .ok (.iconst 1, 1) := by decide +kernel
theorem dX2_missingFor_40 : decode cX2_missingFor 40 = .ok (.iload 4, 2) := by decide +kernel
theorem dX2_missingFor_42 : decode cX2_missingFor 42 = .ok (.ishl, 1) := by decide +kernel
theorem dX2_missingFor_43 : decode cX2_missingFor 43 = .ok (.ior, 1) := by decide +kernel
theorem dX2_missingFor_44 : decode cX2_missingFor 44 = .ok (.istore_n 3, 1) := by decide +kernel
theorem dX2_missingFor_45 : decode cX2_missingFor 45 = .ok (.iinc 4 (-1), 3) := by decide +kernel
theorem dX2_missingFor_48 : decode cX2_missingFor 48 = .ok (.goto (-39), 3) := by decide +kernel
theorem dX2_missingFor_51 : decode cX2_missingFor 51 = .ok (.iload_n 3, 1) := by decide +kernel
theorem dX2_missingFor_52 : decode cX2_missingFor 52 = .ok (.ireturn, 1) := by decide +kernel
theorem dX2_addStandard_0 : decode cX2_addStandard 0 = .ok (.aload_n 0, 1) := by decide +kernel
theorem dX2_addStandard_1 : decode cX2_addStandard 1 = .ok (.invokevirtual 78, 3) := by decide +kernel
theorem dX2_addStandard_4 : decode cX2_addStandard 4 = .ok (.istore_n 2, 1) := by decide +kernel
theorem dX2_addStandard_5 : decode cX2_addStandard 5 = .ok (.aload_n 0, 1) := by decide +kernel
theorem dX2_addStandard_6 : decode cX2_addStandard 6 = .ok (.getfield 27, 3) := by decide +kernel
theorem dX2_addStandard_9 : decode cX2_addStandard 9 = .ok (.iload_n 1, 1) := by decide +kernel
theorem dX2_addStandard_10 : decode cX2_addStandard 10 = .ok (.iload_n 2, 1) := by decide +kernel
theorem dX2_addStandard_11 : decode cX2_addStandard 11 = .ok (.iconst 1, 1) := by decide +kernel
theorem dX2_addStandard_12 : decode cX2_addStandard 12 = .ok (.iadd, 1) := by decide +kernel
theorem dX2_addStandard_13 : decode cX2_addStandard 13 = .ok (.invokestatic 59, 3) := by decide +kernel
theorem dX2_addStandard_16 : decode cX2_addStandard 16 = .ok (.iconst 0, 1) := by decide +kernel
theorem dX2_addStandard_17 : decode cX2_addStandard 17 = .ok (.istore_n 3, 1) := by decide +kernel
theorem dX2_addStandard_18 : decode cX2_addStandard 18 = .ok (.iload_n 3, 1) := by decide +kernel
theorem dX2_addStandard_19 : decode cX2_addStandard 19 = .ok (.iconst 4, 1) := by decide +kernel
theorem dX2_addStandard_20 : decode cX2_addStandard 20 = .ok (.if_icmp .ge 28, 3) := by decide +kernel
theorem dX2_addStandard_23 : decode cX2_addStandard 23 = .ok (.iload_n 1, 1) := by decide +kernel
theorem dX2_addStandard_24 : decode cX2_addStandard 24 = .ok (.iload_n 3, 1) := by decide +kernel
theorem dX2_addStandard_25 : decode cX2_addStandard 25 = .ok (.invokestatic 74, 3) := by decide +kernel
theorem dX2_addStandard_28 : decode cX2_addStandard 28 = .ok (.ifCond .eq 14, 3) := by decide +kernel
theorem dX2_addStandard_31 : decode cX2_addStandard 31 = .ok (.aload_n 0, 1) := by decide +kernel
theorem dX2_addStandard_32 : decode cX2_addStandard 32 = .ok (.iload_n 2, 1) := by decide +kernel
theorem dX2_addStandard_33 : decode cX2_addStandard 33 = .ok (.aload_n 0, 1) := by decide +kernel
theorem dX2_addStandard_34 : decode cX2_addStandard 34 = .ok (.iload_n 3, 1) := by decide +kernel
theorem dX2_addStandard_35 : decode cX2_addStandard 35 = .ok (.invokevirtual 71, 3) := by decide +kernel
theorem dX2_addStandard_38 : decode cX2_addStandard 38 = .ok (.iconst 0, 1) := by decide +kernel
theorem dX2_addStandard_39 : decode cX2_addStandard 39 = .ok (.invokevirtual 82, 3) := by decide +kernel
theorem dX2_addStandard_42 : decode cX2_addStandard 42 = .ok (.iinc 3 1, 3) := by decide +kernel
theorem dX2_addStandard_45 : decode cX2_addStandard 45 = .ok (.goto (-27), 3) := by decide +kernel
theorem dX2_addStandard_48 : decode cX2_addStandard 48 = .ok (.return_, 1) := by decide +kernel
theorem dX2_draft_0 : decode cX2_draft 0 = .ok (.aload_n 0, 1) := by decide +kernel
theorem dX2_draft_1 : decode cX2_draft 1 = .ok (.iconst 0, 1) := by decide +kernel
theorem dX2_draft_2 : decode cX2_draft 2 = .ok (.iload_n 1, 1) := by decide +kernel
theorem dX2_draft_3 : decode cX2_draft 3 = .ok (.iload_n 2, 1) := by decide +kernel
theorem dX2_draft_4 : decode cX2_draft 4 = .ok (.invokevirtual 86, 3) := by decide +kernel
theorem dX2_draft_7 : decode cX2_draft 7 = .ok (.istore 5, 2) := by decide +kernel
theorem dX2_draft_9 : decode cX2_draft 9 = .ok (.iload 5, 2) := by decide +kernel
theorem dX2_draft_11 : decode cX2_draft 11 = .ok (.iconst 4, 1) := by decide +kernel
theorem dX2_draft_12 : decode cX2_draft 12 = .ok (.if_icmp .le 8, 3) := by decide +kernel
theorem dX2_draft_15 : decode cX2_draft 15 = .ok (.iload 5, 2) := by decide +kernel
theorem dX2_draft_17 : decode cX2_draft 17 = .ok (.goto 12, 3) := by decide +kernel
theorem dX2_draft_20 : decode cX2_draft 20 = .ok (.aload_n 0, 1) := by decide +kernel
theorem dX2_draft_21 : decode cX2_draft 21 = .ok (.iload 5, 2) := by decide +kernel
theorem dX2_draft_23 : decode cX2_draft 23 = .ok (.iload_n 3, 1) := by decide +kernel
theorem dX2_draft_24 : decode cX2_draft 24 = .ok (.iload 4, 2) := by decide +kernel
theorem dX2_draft_26 : decode cX2_draft 26 = .ok (.invokevirtual 86, 3) := by decide +kernel
theorem dX2_draft_29 : decode cX2_draft 29 = .ok (.ireturn, 1) := by decide +kernel
theorem dX2_draftPart_0 : decode cX2_draftPart 0 = .ok (.iload_n 1, 1) := by decide +kernel
theorem dX2_draftPart_1 : decode cX2_draftPart 1 = .ok (.istore 4, 2) := by decide +kernel
theorem dX2_draftPart_3 : decode cX2_draftPart 3 = .ok (.iconst 0, 1) := by decide +kernel
theorem dX2_draftPart_4 : decode cX2_draftPart 4 = .ok (.istore 5, 2) := by decide +kernel
theorem dX2_draftPart_6 : decode cX2_draftPart 6 = .ok (.iload 5, 2) := by decide +kernel
theorem dX2_draftPart_8 : decode cX2_draftPart 8 = .ok (.aload_n 0, 1) := by decide +kernel
theorem dX2_draftPart_9 : decode cX2_draftPart 9 = .ok (.iload_n 2, 1) := by decide +kernel
theorem dX2_draftPart_10 : decode cX2_draftPart 10 = .ok (.invokevirtual 45, 3) := by decide +kernel
theorem dX2_draftPart_13 : decode cX2_draftPart 13 = .ok (.if_icmp .ge 113, 3) := by decide +kernel
theorem dX2_draftPart_16 : decode cX2_draftPart 16 = .ok (.aload_n 0, 1) := by decide +kernel
theorem dX2_draftPart_17 : decode cX2_draftPart 17 = .ok (.getfield 30, 3) := by decide +kernel
theorem dX2_draftPart_20 : decode cX2_draftPart 20 = .ok (.iload_n 3, 1) := by decide +kernel
theorem dX2_draftPart_21 : decode cX2_draftPart 21 = .ok (.invokevirtual 90, 3) := by decide +kernel
theorem dX2_draftPart_24 : decode cX2_draftPart 24 = .ok (.aload_n 0, 1) := by decide +kernel
theorem dX2_draftPart_25 : decode cX2_draftPart 25 = .ok (.getfield 30, 3) := by decide +kernel
theorem dX2_draftPart_28 : decode cX2_draftPart 28 = .ok (.aload_n 0, 1) := by decide +kernel
theorem dX2_draftPart_29 : decode cX2_draftPart 29 = .ok (.iload_n 2, 1) := by decide +kernel
theorem dX2_draftPart_30 : decode cX2_draftPart 30 = .ok (.iload 5, 2) := by decide +kernel
theorem dX2_draftPart_32 : decode cX2_draftPart 32 = .ok (.invokevirtual 53, 3) := by decide +kernel
theorem dX2_draftPart_35 : decode cX2_draftPart 35 = .ok (.invokevirtual 90, 3) := by decide +kernel
theorem dX2_draftPart_38 : decode cX2_draftPart 38 = .ok (.iand, 1) := by decide +kernel
theorem dX2_draftPart_39 : decode cX2_draftPart 39 = .ok (.istore 6, 2) := by decide +kernel
theorem dX2_draftPart_41 : decode cX2_draftPart 41 = .ok (.iconst 0, 1) := by decide +kernel
theorem dX2_draftPart_42 : decode cX2_draftPart 42 = .ok (.istore 7, 2) := by decide +kernel
theorem dX2_draftPart_44 : decode cX2_draftPart 44 = .ok (.iload 7, 2) := by decide +kernel
theorem dX2_draftPart_46 : decode cX2_draftPart 46 = .ok (.aload_n 0, 1) := by decide +kernel
theorem dX2_draftPart_47 : decode cX2_draftPart 47 = .ok (.getfield 30, 3) := by decide +kernel
theorem dX2_draftPart_50 : decode cX2_draftPart 50 = .ok (.invokevirtual 95, 3) := by decide +kernel
theorem dX2_draftPart_53 : decode cX2_draftPart 53 = .ok (.if_icmp .ge 67, 3) := by decide +kernel
theorem dX2_draftPart_56 : decode cX2_draftPart 56 = .ok (.aload_n 0, 1) := by decide +kernel
theorem dX2_draftPart_57 : decode cX2_draftPart 57 = .ok (.iload_n 2, 1) := by decide +kernel
theorem dX2_draftPart_58 : decode cX2_draftPart 58 = .ok (.iload 5, 2) := by decide +kernel
theorem dX2_draftPart_60 : decode cX2_draftPart 60 = .ok (.invokevirtual 49, 3) := by decide +kernel
theorem dX2_draftPart_63 : decode cX2_draftPart 63 = .ok (.bipush 16, 2) := by decide +kernel
theorem dX2_draftPart_65 : decode cX2_draftPart 65 = .ok (.iload 7, 2) := by decide +kernel
theorem dX2_draftPart_67 : decode cX2_draftPart 67 = .ok (.imul, 1) := by decide +kernel
theorem dX2_draftPart_68 : decode cX2_draftPart 68 = .ok (.iadd, 1) := by decide +kernel
theorem dX2_draftPart_69 : decode cX2_draftPart 69 = .ok (.istore 8, 2) := by decide +kernel
theorem dX2_draftPart_71 : decode cX2_draftPart 71 = .ok (.iload 6, 2) := by decide +kernel
theorem dX2_draftPart_73 : decode cX2_draftPart 73 = .ok (.iload 7, 2) := by decide +kernel
theorem dX2_draftPart_75 : decode cX2_draftPart 75 = .ok (.invokestatic 74, 3) := by decide +kernel
theorem dX2_draftPart_78 : decode cX2_draftPart 78 = .ok (.ifCond .eq 36, 3) := by decide +kernel
theorem dX2_draftPart_81 : decode cX2_draftPart 81 = .ok (.aload_n 0, 1) := by decide +kernel
theorem dX2_draftPart_82 : decode cX2_draftPart 82 = .ok (.iload 4, 2) := by decide +kernel
theorem dX2_draftPart_84 : decode cX2_draftPart 84 = .ok (.iload 8, 2) := by decide +kernel
theorem dX2_draftPart_86 : decode cX2_draftPart 86 = .ok (.invokevirtual 98, 3) := by decide +kernel
theorem dX2_draftPart_89 : decode cX2_draftPart 89 = .ok (.ifCond .ne 25, 3) := by decide +kernel
theorem dX2_draftPart_92 : decode cX2_draftPart 92 = .ok (.iload 4, 2) := by decide +kernel
theorem dX2_draftPart_94 : decode cX2_draftPart 94 = .ok (.iconst 4, 1) := by decide +kernel
theorem dX2_draftPart_95 : decode cX2_draftPart 95 = .ok (.if_icmp .lt 5, 3) := by decide +kernel
theorem dX2_draftPart_98 : decode cX2_draftPart 98 = .ok (.iconst 5, 1) := by decide +kernel
theorem dX2_draftPart_99 : decode cX2_draftPart 99 = .ok (.ireturn, 1) := by decide +kernel
theorem dX2_draftPart_100 : decode cX2_draftPart 100 = .ok (.aload_n 0, 1) := by decide +kernel
theorem dX2_draftPart_101 : decode cX2_draftPart 101 = .ok (.getfield 24, 3) := by decide +kernel
theorem dX2_draftPart_104 : decode cX2_draftPart 104 = .ok (.iload 4, 2) := by decide +kernel
theorem dX2_draftPart_106 : decode cX2_draftPart 106 = .ok (.iload 8, 2) := by decide +kernel
theorem dX2_draftPart_108 : decode cX2_draftPart 108 = .ok (.invokestatic 59, 3) := by decide +kernel
theorem dX2_draftPart_111 : decode cX2_draftPart 111 = .ok (.iinc 4 1, 3) := by decide +kernel
theorem dX2_draftPart_114 : decode cX2_draftPart 114 = .ok (.iinc 7 1, 3) := by decide +kernel
theorem dX2_draftPart_117 : decode cX2_draftPart 117 = .ok (.goto (-73), 3) := by decide +kernel
theorem dX2_draftPart_120 : decode cX2_draftPart 120 = .ok (.iinc 5 1, 3) := by decide +kernel
theorem dX2_draftPart_123 : decode cX2_draftPart 123 = .ok (.goto (-117), 3) := by decide +kernel
theorem dX2_draftPart_126 : decode cX2_draftPart 126 = .ok (.iload 4, 2) := by decide +kernel
theorem dX2_draftPart_128 : decode cX2_draftPart 128 = .ok (.ireturn, 1) := by decide +kernel
theorem dX2_isDrafted_0 : decode cX2_isDrafted 0 = .ok (.iconst 0, 1) := by decide +kernel
theorem dX2_isDrafted_1 : decode cX2_isDrafted 1 = .ok (.istore_n 3, 1) := by decide +kernel
theorem dX2_isDrafted_2 : decode cX2_isDrafted 2 = .ok (.iload_n 3, 1) := by decide +kernel
theorem dX2_isDrafted_3 : decode cX2_isDrafted 3 = .ok (.iload_n 1, 1) := by decide +kernel
theorem dX2_isDrafted_4 : decode cX2_isDrafted 4 = .ok (.if_icmp .ge 23, 3) := by decide +kernel
theorem dX2_isDrafted_7 : decode cX2_isDrafted 7 = .ok (.aload_n 0, 1) := by decide +kernel
theorem dX2_isDrafted_8 : decode cX2_isDrafted 8 = .ok (.getfield 24, 3) := by decide +kernel
theorem dX2_isDrafted_11 : decode cX2_isDrafted 11 = .ok (.iload_n 3, 1) := by decide +kernel
theorem dX2_isDrafted_12 : decode cX2_isDrafted 12 = .ok (.invokestatic 41, 3) := by decide +kernel
theorem dX2_isDrafted_15 : decode cX2_isDrafted 15 = .ok (.iload_n 2, 1) := by decide +kernel
theorem dX2_isDrafted_16 : decode cX2_isDrafted 16 = .ok (.if_icmp .ne 5, 3) := by decide +kernel
theorem dX2_isDrafted_19 : decode cX2_isDrafted 19 = .ok (.iconst 1, 1) := by decide +kernel
theorem dX2_isDrafted_20 : decode cX2_isDrafted 20 = .ok (.ireturn, 1) := by decide +kernel
theorem dX2_isDrafted_21 : decode cX2_isDrafted 21 = .ok (.iinc 3 1, 3) := by decide +kernel
theorem dX2_isDrafted_24 : decode cX2_isDrafted 24 = .ok (.goto (-22), 3) := by decide +kernel
theorem dX2_isDrafted_27 : decode cX2_isDrafted 27 = .ok (.iconst 0, 1) := by decide +kernel
theorem dX2_isDrafted_28 : decode cX2_isDrafted 28 = .ok (.ireturn, 1) := by decide +kernel
theorem dX2_addDraft_0 : decode cX2_addDraft 0 = .ok (.aload_n 0, 1) := by decide +kernel
theorem dX2_addDraft_1 : decode cX2_addDraft 1 = .ok (.invokevirtual 78, 3) := by decide +kernel
theorem dX2_addDraft_4 : decode cX2_addDraft 4 = .ok (.istore_n 2, 1) := by decide +kernel
theorem dX2_addDraft_5 : decode cX2_addDraft 5 = .ok (.iconst 0, 1) := by decide +kernel
theorem dX2_addDraft_6 : decode cX2_addDraft 6 = .ok (.istore_n 3, 1) := by decide +kernel
theorem dX2_addDraft_7 : decode cX2_addDraft 7 = .ok (.iload_n 3, 1) := by decide +kernel
theorem dX2_addDraft_8 : decode cX2_addDraft 8 = .ok (.iload_n 1, 1) := by decide +kernel
theorem dX2_addDraft_9 : decode cX2_addDraft 9 = .ok (.if_icmp .ge 35, 3) := by decide +kernel
theorem dX2_addDraft_12 : decode cX2_addDraft 12 = .ok (.aload_n 0, 1) := by decide +kernel
theorem dX2_addDraft_13 : decode cX2_addDraft 13 = .ok (.iload_n 2, 1) := by decide +kernel
theorem dX2_addDraft_14 : decode cX2_addDraft 14 = .ok (.aload_n 0, 1) := by decide +kernel
theorem dX2_addDraft_15 : decode cX2_addDraft 15 = .ok (.getfield 24, 3) := by decide +kernel
theorem dX2_addDraft_18 : decode cX2_addDraft 18 = .ok (.iload_n 3, 1) := by decide +kernel
theorem dX2_addDraft_19 : decode cX2_addDraft 19 = .ok (.invokestatic 41, 3) := by decide +kernel
theorem dX2_addDraft_22 : decode cX2_addDraft 22 = .ok (.bipush 15, 2) := by decide +kernel
theorem dX2_addDraft_24 : decode cX2_addDraft 24 = .ok (.iand, 1) := by decide +kernel
theorem dX2_addDraft_25 : decode cX2_addDraft 25 = .ok (.aload_n 0, 1) := by decide +kernel
theorem dX2_addDraft_26 : decode cX2_addDraft 26 = .ok (.getfield 24, 3) := by decide +kernel
theorem dX2_addDraft_29 : decode cX2_addDraft 29 = .ok (.iload_n 3, 1) := by decide +kernel
theorem dX2_addDraft_30 : decode cX2_addDraft 30 = .ok (.invokestatic 41, 3) := by decide +kernel
theorem dX2_addDraft_33 : decode cX2_addDraft 33 = .ok (.iconst 4, 1) := by decide +kernel
theorem dX2_addDraft_34 : decode cX2_addDraft 34 = .ok (.ishr, 1) := by decide +kernel
theorem dX2_addDraft_35 : decode cX2_addDraft 35 = .ok (.invokevirtual 82, 3) := by decide +kernel
theorem dX2_addDraft_38 : decode cX2_addDraft 38 = .ok (.iinc 3 1, 3) := by decide +kernel
theorem dX2_addDraft_41 : decode cX2_addDraft 41 = .ok (.goto (-34), 3) := by decide +kernel
theorem dX2_addDraft_44 : decode cX2_addDraft 44 = .ok (.iload_n 2, 1) := by decide +kernel
theorem dX2_addDraft_45 : decode cX2_addDraft 45 = .ok (.ireturn, 1) := by decide +kernel
theorem dX3_init_0 : decode cX3_init 0 = .ok (.aload_n 0, 1) := by decide +kernel
theorem dX3_init_1 : decode cX3_init 1 = .ok (.invokespecial 3, 3) := by decide +kernel
theorem dX3_init_4 : decode cX3_init 4 = .ok (.aload_n 0, 1) := by decide +kernel
theorem dX3_init_5 : decode cX3_init 5 = .ok (.bipush 7, 2) := by decide +kernel
theorem dX3_init_7 : decode cX3_init 7 = .ok (.newarray .int, 2) := by decide +kernel
theorem dX3_init_9 : decode cX3_init 9 = .ok (.putfield 9, 3) := by decide +kernel
theorem dX3_init_12 : decode cX3_init 12 = .ok (.aload_n 0, 1) := by decide +kernel
theorem dX3_init_13 : decode cX3_init 13 = .ok (.bipush 7, 2) := by decide +kernel
theorem dX3_init_15 : decode cX3_init 15 = .ok (.newarray .int, 2) := by decide +kernel
theorem dX3_init_17 : decode cX3_init 17 = .ok (.putfield 15, 3) := by decide +kernel
theorem dX3_init_20 : decode cX3_init 20 = .ok (.return_, 1) := by decide +kernel
theorem dX3_size_0 : decode cX3_size 0 = .ok (.aload_n 0, 1) := by decide +kernel
theorem dX3_size_1 : decode cX3_size 1 = .ok (.getfield 18, 3) := by decide +kernel
theorem dX3_size_4 : decode cX3_size 4 = .ok (.ireturn, 1) := by decide +kernel
theorem dX3_changes_0 : decode cX3_changes 0 = .ok (.aload_n 0, 1) := by decide +kernel
theorem dX3_changes_1 : decode cX3_changes 1 = .ok (.getfield 22, 3) := by decide +kernel
theorem dX3_changes_4 : decode cX3_changes 4 = .ok (.ireturn, 1) := by decide +kernel
theorem dX3_knows_0 : decode cX3_knows 0 = .ok (.iload_n 1, 1) := by decide +kernel
theorem dX3_knows_1 : decode cX3_knows 1 = .ok (.ifCond .lt 15, 3) := by decide +kernel
theorem dX3_knows_4 : decode cX3_knows 4 = .ok (.iload_n 1, 1) := by decide +kernel
theorem dX3_knows_5 : decode cX3_knows 5 = .ok (.aload_n 0, 1) := by decide +kernel
theorem dX3_knows_6 : decode cX3_knows 6 = .ok (.getfield 18, 3) := by decide +kernel
theorem dX3_knows_9 : decode cX3_knows 9 = .ok (.if_icmp .ge 7, 3) := by decide +kernel
theorem dX3_knows_12 : decode cX3_knows 12 = .ok (.iconst 1, 1) := by decide +kernel
theorem dX3_knows_13 : decode cX3_knows 13 = .ok (.goto 4, 3) := by decide +kernel
theorem dX3_knows_16 : decode cX3_knows 16 = .ok (.iconst 0, 1) := by decide +kernel
theorem dX3_knows_17 : decode cX3_knows 17 = .ok (.ireturn, 1) := by decide +kernel
theorem dX3_all_0 : decode cX3_all 0 = .ok (.iconst 1, 1) := by decide +kernel
theorem dX3_all_1 : decode cX3_all 1 = .ok (.aload_n 0, 1) := by decide +kernel
theorem dX3_all_2 : decode cX3_all 2 = .ok (.getfield 18, 3) := by decide +kernel
theorem dX3_all_5 : decode cX3_all 5 = .ok (.ishl, 1) := by decide +kernel
theorem dX3_all_6 : decode cX3_all 6 = .ok (.iconst 1, 1) := by decide +kernel
theorem dX3_all_7 : decode cX3_all 7 = .ok (.isub, 1) := by decide +kernel
theorem dX3_all_8 : decode cX3_all 8 = .ok (.ireturn, 1) := by decide +kernel
theorem dX3_add_0 : decode cX3_add 0 = .ok (.aload_n 0, 1) := by decide +kernel
theorem dX3_add_1 : decode cX3_add 1 = .ok (.getfield 18, 3) := by decide +kernel
theorem dX3_add_4 : decode cX3_add 4 = .ok (.istore_n 1, 1) := by decide +kernel
theorem dX3_add_5 : decode cX3_add 5 = .ok (.aload_n 0, 1) := by decide +kernel
theorem dX3_add_6 : decode cX3_add 6 = .ok (.getfield 9, 3) := by decide +kernel
theorem dX3_add_9 : decode cX3_add 9 = .ok (.iload_n 1, 1) := by decide +kernel
theorem dX3_add_10 : decode cX3_add 10 = .ok (.iconst 1, 1) := by decide +kernel
theorem dX3_add_11 : decode cX3_add 11 = .ok (.iload_n 1, 1) := by decide +kernel
theorem dX3_add_12 : decode cX3_add 12 = .ok (.ishl, 1) := by decide +kernel
theorem dX3_add_13 : decode cX3_add 13 = .ok (.invokestatic 25, 3) := by decide +kernel
theorem dX3_add_16 : decode cX3_add 16 = .ok (.aload_n 0, 1) := by decide +kernel
theorem dX3_add_17 : decode cX3_add 17 = .ok (.getfield 15, 3) := by decide +kernel
theorem dX3_add_20 : decode cX3_add 20 = .ok (.iload_n 1, 1) := by decide +kernel
theorem dX3_add_21 : decode cX3_add 21 = .ok (.iload_n 1, 1) := by decide +kernel
theorem dX3_add_22 : decode cX3_add 22 = .ok (.invokestatic 25, 3) := by decide +kernel
theorem dX3_add_25 : decode cX3_add 25 = .ok (.aload_n 0, 1) := by decide +kernel
theorem dX3_add_26 : decode cX3_add 26 = .ok (.dup, 1) := by decide +kernel
theorem dX3_add_27 : decode cX3_add 27 = .ok (.getfield 29, 3) := by decide +kernel
theorem dX3_add_30 : decode cX3_add 30 = .ok (.iconst 1, 1) := by decide +kernel
theorem dX3_add_31 : decode cX3_add 31 = .ok (.iload_n 1, 1) := by decide +kernel
theorem dX3_add_32 : decode cX3_add 32 = .ok (.ishl, 1) := by decide +kernel
theorem dX3_add_33 : decode cX3_add 33 = .ok (.ior, 1) := by decide +kernel
theorem dX3_add_34 : decode cX3_add 34 = .ok (.putfield 29, 3) := by decide +kernel
theorem dX3_add_37 : decode cX3_add 37 = .ok (.aload_n 0, 1) := by decide +kernel
theorem dX3_add_38 : decode cX3_add 38 = .ok (.dup, 1) := by decide +kernel
theorem dX3_add_39 : decode cX3_add 39 = .ok (.getfield 18, 3) := by decide +kernel
theorem dX3_add_42 : decode cX3_add 42 = .ok (.iconst 1, 1) := by decide +kernel
theorem dX3_add_43 : decode cX3_add 43 = .ok (.iadd, 1) := by decide +kernel
theorem dX3_add_44 : decode cX3_add 44 = .ok (.putfield 18, 3) := by decide +kernel
theorem dX3_add_47 : decode cX3_add 47 = .ok (.aload_n 0, 1) := by decide +kernel
theorem dX3_add_48 : decode cX3_add 48 = .ok (.dup, 1) := by decide +kernel
theorem dX3_add_49 : decode cX3_add 49 = .ok (.getfield 22, 3) := by decide +kernel
theorem dX3_add_52 : decode cX3_add 52 = .ok (.iconst 1, 1) := by decide +kernel
theorem dX3_add_53 : decode cX3_add 53 = .ok (.iadd, 1) := by decide +kernel
theorem dX3_add_54 : decode cX3_add 54 = .ok (.putfield 22, 3) := by decide +kernel
theorem dX3_add_57 : decode cX3_add 57 = .ok (.iload_n 1, 1) := by decide +kernel
theorem dX3_add_58 : decode cX3_add 58 = .ok (.ireturn, 1) := by decide +kernel
theorem dX3_down_0 : decode cX3_down 0 = .ok (.aload_n 0, 1) := by decide +kernel
theorem dX3_down_1 : decode cX3_down 1 = .ok (.getfield 9, 3) := by decide +kernel
theorem dX3_down_4 : decode cX3_down 4 = .ok (.iload_n 1, 1) := by decide +kernel
theorem dX3_down_5 : decode cX3_down 5 = .ok (.invokestatic 32, 3) := by decide +kernel
theorem dX3_down_8 : decode cX3_down 8 = .ok (.ireturn, 1) := by decide +kernel
theorem dX3_up_0 : decode cX3_up 0 = .ok (.iconst 0, 1) := by decide +kernel
theorem dX3_up_1 : decode cX3_up 1 = .ok (.istore_n 2, 1) := by decide +kernel
theorem dX3_up_2 : decode cX3_up 2 = .ok (.iconst 0, 1) := by decide +kernel
theorem dX3_up_3 : decode cX3_up 3 = .ok (.istore_n 3, 1) := by decide +kernel
theorem dX3_up_4 : decode cX3_up 4 = .ok (.iload_n 3, 1) := by decide +kernel
theorem dX3_up_5 : decode cX3_up 5 = .ok (.aload_n 0, 1) := by decide +kernel
theorem dX3_up_6 : decode cX3_up 6 = .ok (.getfield 18, 3) := by decide +kernel
theorem dX3_up_9 : decode cX3_up 9 = .ok (.if_icmp .ge 24, 3) := by decide +kernel
theorem dX3_up_12 : decode cX3_up 12 = .ok (.aload_n 0, 1) := by decide +kernel
theorem dX3_up_13 : decode cX3_up 13 = .ok (.iload_n 1, 1) := by decide +kernel
theorem dX3_up_14 : decode cX3_up 14 = .ok (.iload_n 3, 1) := by decide +kernel
theorem dX3_up_15 : decode cX3_up 15 = .ok (.invokevirtual 36, 3) := by decide +kernel
theorem dX3_up_18 : decode cX3_up 18 = .ok (.ifCond .eq 9, 3) := by decide +kernel
theorem dX3_up_21 : decode cX3_up 21 = .ok (.iload_n 2, 1) := by decide +kernel
theorem dX3_up_22 : decode cX3_up 22 = .ok (.iconst 1, 1) := by decide +kernel
theorem dX3_up_23 : decode cX3_up 23 = .ok (.iload_n 3, 1) := by decide +kernel
theorem dX3_up_24 : decode cX3_up 24 = .ok (.ishl, 1) := by decide +kernel
theorem dX3_up_25 : decode cX3_up 25 = .ok (.ior, 1) := by decide +kernel
theorem dX3_up_26 : decode cX3_up 26 = .ok (.istore_n 2, 1) := by decide +kernel
theorem dX3_up_27 : decode cX3_up 27 = .ok (.iinc 3 1, 3) := by decide +kernel
theorem dX3_up_30 : decode cX3_up 30 = .ok (.goto (-26), 3) := by decide +kernel
theorem dX3_up_33 : decode cX3_up 33 = .ok (.iload_n 2, 1) := by decide +kernel
theorem dX3_up_34 : decode cX3_up 34 = .ok (.ireturn, 1) := by decide +kernel
theorem dX3_stands_0 : decode cX3_stands 0 = .ok (.aload_n 0, 1) := by decide +kernel
theorem dX3_stands_1 : decode cX3_stands 1 = .ok (.iload_n 2, 1) := by decide +kernel
theorem dX3_stands_2 : decode cX3_stands 2 = .ok (.invokevirtual 40, 3) := by decide +kernel
theorem dX3_stands_5 : decode cX3_stands 5 = .ok (.iload_n 1, 1) := by decide +kernel
theorem dX3_stands_6 : decode cX3_stands 6 = .ok (.invokestatic 44, 3) := by decide +kernel
theorem dX3_stands_9 : decode cX3_stands 9 = .ok (.ireturn, 1) := by decide +kernel
theorem dX3_agree_0 : decode cX3_agree 0 = .ok (.aload_n 0, 1) := by decide +kernel
theorem dX3_agree_1 : decode cX3_agree 1 = .ok (.iload_n 1, 1) := by decide +kernel
theorem dX3_agree_2 : decode cX3_agree 2 = .ok (.invokevirtual 40, 3) := by decide +kernel
theorem dX3_agree_5 : decode cX3_agree 5 = .ok (.aload_n 0, 1) := by decide +kernel
theorem dX3_agree_6 : decode cX3_agree 6 = .ok (.iload_n 2, 1) := by decide +kernel
theorem dX3_agree_7 : decode cX3_agree 7 = .ok (.invokevirtual 40, 3) := by decide +kernel
theorem dX3_agree_10 : decode cX3_agree 10 = .ok (.iand, 1) := by decide +kernel
theorem dX3_agree_11 : decode cX3_agree 11 = .ok (.ifCond .eq 7, 3) := by decide +kernel
theorem dX3_agree_14 : decode cX3_agree 14 = .ok (.iconst 1, 1) := by decide +kernel
theorem dX3_agree_15 : decode cX3_agree 15 = .ok (.goto 4, 3) := by decide +kernel
theorem dX3_agree_18 : decode cX3_agree 18 = .ok (.iconst 0, 1) := by decide +kernel
theorem dX3_agree_19 : decode cX3_agree 19 = .ok (.ireturn, 1) := by decide +kernel
theorem dX3_place_0 : decode cX3_place 0 = .ok (.aload_n 0, 1) := by decide +kernel
theorem dX3_place_1 : decode cX3_place 1 = .ok (.iload_n 1, 1) := by decide +kernel
theorem dX3_place_2 : decode cX3_place 2 = .ok (.invokevirtual 40, 3) := by decide +kernel
theorem dX3_place_5 : decode cX3_place 5 = .ok (.istore_n 3, 1) := by decide +kernel
theorem dX3_place_6 : decode cX3_place 6 = .ok (.iconst 0, 1) := by decide +kernel
theorem dX3_place_7 : decode cX3_place 7 = .ok (.istore 4, 2) := by decide +kernel
theorem dX3_place_9 : decode cX3_place 9 = .ok (.iload 4, 2) := by decide +kernel
theorem dX3_place_11 : decode cX3_place 11 = .ok (.aload_n 0, 1) := by decide +kernel
theorem dX3_place_12 : decode cX3_place 12 = .ok (.getfield 18, 3) := by decide +kernel
theorem dX3_place_15 : decode cX3_place 15 = .ok (.if_icmp .ge 36, 3) := by decide +kernel
theorem dX3_place_18 : decode cX3_place 18 = .ok (.aload_n 0, 1) := by decide +kernel
theorem dX3_place_19 : decode cX3_place 19 = .ok (.iload_n 2, 1) := by decide +kernel
theorem dX3_place_20 : decode cX3_place 20 = .ok (.iload 4, 2) := by decide +kernel
theorem dX3_place_22 : decode cX3_place 22 = .ok (.invokevirtual 36, 3) := by decide +kernel
theorem dX3_place_25 : decode cX3_place 25 = .ok (.ifCond .eq 20, 3) := by decide +kernel
theorem dX3_place_28 : decode cX3_place 28 = .ok (.aload_n 0, 1) := by decide +kernel
theorem dX3_place_29 : decode cX3_place 29 = .ok (.getfield 9, 3) := by decide +kernel
theorem dX3_place_32 : decode cX3_place 32 = .ok (.iload 4, 2) := by decide +kernel
theorem dX3_place_34 : decode cX3_place 34 = .ok (.aload_n 0, 1) := by decide +kernel
theorem dX3_place_35 : decode cX3_place 35 = .ok (.iload 4, 2) := by decide +kernel
theorem dX3_place_37 : decode cX3_place 37 = .ok (.invokevirtual 40, 3) := by decide +kernel
theorem dX3_place_40 : decode cX3_place 40 = .ok (.iload_n 3, 1) := by decide +kernel
theorem dX3_place_41 : decode cX3_place 41 = .ok (.ior, 1) := by decide +kernel
theorem dX3_place_42 : decode cX3_place 42 = .ok (.invokestatic 25, 3) := by decide +kernel
theorem dX3_place_45 : decode cX3_place 45 = .ok (.iinc 4 1, 3) := by decide +kernel
theorem dX3_place_48 : decode cX3_place 48 = .ok (.goto (-39), 3) := by decide +kernel
theorem dX3_place_51 : decode cX3_place 51 = .ok (.aload_n 0, 1) := by decide +kernel
theorem dX3_place_52 : decode cX3_place 52 = .ok (.dup, 1) := by decide +kernel
theorem dX3_place_53 : decode cX3_place 53 = .ok (.getfield 29, 3) := by decide +kernel
theorem dX3_place_56 : decode cX3_place 56 = .ok (.iconst 1, 1) := by decide +kernel
theorem dX3_place_57 : decode cX3_place 57 = .ok (.iload_n 2, 1) := by decide +kernel
theorem dX3_place_58 : decode cX3_place 58 = .ok (.ishl, 1) := by decide +kernel
theorem dX3_place_59 : decode cX3_place 59 = .ok (.iconst (-1), 1) := by decide +kernel
theorem dX3_place_60 : decode cX3_place 60 = .ok (.ixor, 1) := by decide +kernel
theorem dX3_place_61 : decode cX3_place 61 = .ok (.iand, 1) := by decide +kernel
theorem dX3_place_62 : decode cX3_place 62 = .ok (.putfield 29, 3) := by decide +kernel
theorem dX3_place_65 : decode cX3_place 65 = .ok (.aload_n 0, 1) := by decide +kernel
theorem dX3_place_66 : decode cX3_place 66 = .ok (.dup, 1) := by decide +kernel
theorem dX3_place_67 : decode cX3_place 67 = .ok (.getfield 22, 3) := by decide +kernel
theorem dX3_place_70 : decode cX3_place 70 = .ok (.iconst 1, 1) := by decide +kernel
theorem dX3_place_71 : decode cX3_place 71 = .ok (.iadd, 1) := by decide +kernel
theorem dX3_place_72 : decode cX3_place 72 = .ok (.putfield 22, 3) := by decide +kernel
theorem dX3_place_75 : decode cX3_place 75 = .ok (.return_, 1) := by decide +kernel
theorem dX3_pairsBelow_0 : decode cX3_pairsBelow 0 = .ok (.iconst 0, 1) := by decide +kernel
theorem dX3_pairsBelow_1 : decode cX3_pairsBelow 1 = .ok (.istore_n 1, 1) := by decide +kernel
theorem dX3_pairsBelow_2 : decode cX3_pairsBelow 2 = .ok (.iconst 0, 1) := by decide +kernel
theorem dX3_pairsBelow_3 : decode cX3_pairsBelow 3 = .ok (.istore_n 2, 1) := by decide +kernel
theorem dX3_pairsBelow_4 : decode cX3_pairsBelow 4 = .ok (.iload_n 2, 1) := by decide +kernel
theorem dX3_pairsBelow_5 : decode cX3_pairsBelow 5 = .ok (.aload_n 0, 1) := by decide +kernel
theorem dX3_pairsBelow_6 : decode cX3_pairsBelow 6 = .ok (.getfield 18, 3) := by decide +kernel
theorem dX3_pairsBelow_9 : decode cX3_pairsBelow 9 = .ok (.if_icmp .ge 22, 3) := by decide +kernel
theorem dX3_pairsBelow_12 : decode cX3_pairsBelow 12 = .ok (.iload_n 1, 1) := by decide +kernel
theorem dX3_pairsBelow_13 : decode cX3_pairsBelow 13 = .ok (.aload_n 0, 1) := by decide +kernel
theorem dX3_pairsBelow_14 : decode cX3_pairsBelow 14 = .ok (.iload_n 2, 1) := by decide +kernel
theorem dX3_pairsBelow_15 : decode cX3_pairsBelow 15 = .ok (.invokevirtual 40, 3) := by decide +kernel
theorem dX3_pairsBelow_18 : decode cX3_pairsBelow 18 = .ok (.invokestatic 47, 3) := by decide +kernel
theorem dX3_pairsBelow_21 : decode cX3_pairsBelow 21 = .ok (.iconst 1, 1) := by decide +kernel
theorem dX3_pairsBelow_22 : decode cX3_pairsBelow 22 = .ok (.isub, 1) := by decide +kernel
theorem dX3_pairsBelow_23 : decode cX3_pairsBelow 23 = .ok (.iadd, 1) := by decide +kernel
theorem dX3_pairsBelow_24 : decode cX3_pairsBelow 24 = .ok (.istore_n 1, 1) := by decide +kernel
theorem dX3_pairsBelow_25 : decode cX3_pairsBelow 25 = .ok (.iinc 2 1, 3) := by decide +kernel
theorem dX3_pairsBelow_28 : decode cX3_pairsBelow 28 = .ok (.goto (-24), 3) := by decide +kernel
theorem dX3_pairsBelow_31 : decode cX3_pairsBelow 31 = .ok (.iload_n 1, 1) := by decide +kernel
theorem dX3_pairsBelow_32 : decode cX3_pairsBelow 32 = .ok (.ireturn, 1) := by decide +kernel
theorem dX3_ends_0 : decode cX3_ends 0 = .ok (.aload_n 0, 1) := by decide +kernel
theorem dX3_ends_1 : decode cX3_ends 1 = .ok (.getfield 29, 3) := by decide +kernel
theorem dX3_ends_4 : decode cX3_ends 4 = .ok (.ireturn, 1) := by decide +kernel
theorem dX3_endsOf_0 : decode cX3_endsOf 0 = .ok (.aload_n 0, 1) := by decide +kernel
theorem dX3_endsOf_1 : decode cX3_endsOf 1 = .ok (.getfield 9, 3) := by decide +kernel
theorem dX3_endsOf_4 : decode cX3_endsOf 4 = .ok (.iload_n 1, 1) := by decide +kernel
theorem dX3_endsOf_5 : decode cX3_endsOf 5 = .ok (.invokestatic 32, 3) := by decide +kernel
theorem dX3_endsOf_8 : decode cX3_endsOf 8 = .ok (.aload_n 0, 1) := by decide +kernel
theorem dX3_endsOf_9 : decode cX3_endsOf 9 = .ok (.getfield 29, 3) := by decide +kernel
theorem dX3_endsOf_12 : decode cX3_endsOf 12 = .ok (.iand, 1) := by decide +kernel
theorem dX3_endsOf_13 : decode cX3_endsOf 13 = .ok (.ireturn, 1) := by decide +kernel
theorem dX3_avoiding_0 : decode cX3_avoiding 0 = .ok (.iconst 0, 1) := by decide +kernel
theorem dX3_avoiding_1 : decode cX3_avoiding 1 = .ok (.istore_n 2, 1) := by decide +kernel
theorem dX3_avoiding_2 : decode cX3_avoiding 2 = .ok (.iconst 0, 1) := by decide +kernel
theorem dX3_avoiding_3 : decode cX3_avoiding 3 = .ok (.istore_n 3, 1) := by decide +kernel
theorem dX3_avoiding_4 : decode cX3_avoiding 4 = .ok (.iload_n 3, 1) := by decide +kernel
theorem dX3_avoiding_5 : decode cX3_avoiding 5 = .ok (.aload_n 0, 1) := by decide +kernel
theorem dX3_avoiding_6 : decode cX3_avoiding 6 = .ok (.getfield 18, 3) := by decide +kernel
theorem dX3_avoiding_9 : decode cX3_avoiding 9 = .ok (.if_icmp .ge 28, 3) := by decide +kernel
theorem dX3_avoiding_12 : decode cX3_avoiding 12 = .ok (.aload_n 0, 1) := by decide +kernel
theorem dX3_avoiding_13 : decode cX3_avoiding 13 = .ok (.getfield 9, 3) := by decide +kernel
theorem dX3_avoiding_16 : decode cX3_avoiding 16 = .ok (.iload_n 3, 1) := by decide +kernel
theorem dX3_avoiding_17 : decode cX3_avoiding 17 = .ok (.invokestatic 32, 3) := by decide +kernel
theorem dX3_avoiding_20 : decode cX3_avoiding 20 = .ok (.iload_n 1, 1) := by decide +kernel
theorem dX3_avoiding_21 : decode cX3_avoiding 21 = .ok (.iand, 1) := by decide +kernel
theorem dX3_avoiding_22 : decode cX3_avoiding 22 = .ok (.ifCond .ne 9, 3) := by decide +kernel
theorem dX3_avoiding_25 : decode cX3_avoiding 25 = .ok (.iload_n 2, 1) := by decide +kernel
theorem dX3_avoiding_26 : decode cX3_avoiding 26 = .ok (.iconst 1, 1) := by decide +kernel
theorem dX3_avoiding_27 : decode cX3_avoiding 27 = .ok (.iload_n 3, 1) := by decide +kernel
theorem dX3_avoiding_28 : decode cX3_avoiding 28 = .ok (.ishl, 1) := by decide +kernel
theorem dX3_avoiding_29 : decode cX3_avoiding 29 = .ok (.ior, 1) := by decide +kernel
theorem dX3_avoiding_30 : decode cX3_avoiding 30 = .ok (.istore_n 2, 1) := by decide +kernel
theorem dX3_avoiding_31 : decode cX3_avoiding 31 = .ok (.iinc 3 1, 3) := by decide +kernel
theorem dX3_avoiding_34 : decode cX3_avoiding 34 = .ok (.goto (-30), 3) := by decide +kernel
theorem dX3_avoiding_37 : decode cX3_avoiding 37 = .ok (.iload_n 2, 1) := by decide +kernel
theorem dX3_avoiding_38 : decode cX3_avoiding 38 = .ok (.ireturn, 1) := by decide +kernel
theorem dX3_image_0 : decode cX3_image 0 = .ok (.aload_n 0, 1) := by decide +kernel
theorem dX3_image_1 : decode cX3_image 1 = .ok (.getfield 15, 3) := by decide +kernel
theorem dX3_image_4 : decode cX3_image 4 = .ok (.iload_n 1, 1) := by decide +kernel
theorem dX3_image_5 : decode cX3_image 5 = .ok (.invokestatic 32, 3) := by decide +kernel
theorem dX3_image_8 : decode cX3_image 8 = .ok (.ireturn, 1) := by decide +kernel
theorem dX3_exchange_0 : decode cX3_exchange 0 = .ok (.aload_n 0, 1) := by decide +kernel
theorem dX3_exchange_1 : decode cX3_exchange 1 = .ok (.iload_n 1, 1) := by decide +kernel
theorem dX3_exchange_2 : decode cX3_exchange 2 = .ok (.invokevirtual 52, 3) := by decide +kernel
theorem dX3_exchange_5 : decode cX3_exchange 5 = .ok (.istore_n 3, 1) := by decide +kernel
theorem dX3_exchange_6 : decode cX3_exchange 6 = .ok (.aload_n 0, 1) := by decide +kernel
theorem dX3_exchange_7 : decode cX3_exchange 7 = .ok (.getfield 15, 3) := by decide +kernel
theorem dX3_exchange_10 : decode cX3_exchange 10 = .ok (.iload_n 1, 1) := by decide +kernel
theorem dX3_exchange_11 : decode cX3_exchange 11 = .ok (.aload_n 0, 1) := by decide +kernel
theorem dX3_exchange_12 : decode cX3_exchange 12 = .ok (.iload_n 2, 1) := by decide +kernel
theorem dX3_exchange_13 : decode cX3_exchange 13 = .ok (.invokevirtual 52, 3) := by decide +kernel
theorem dX3_exchange_16 : decode cX3_exchange 16 = .ok (.invokestatic 25, 3) := by decide +kernel
theorem dX3_exchange_19 : decode cX3_exchange 19 = .ok (.aload_n 0, 1) := by decide +kernel
theorem dX3_exchange_20 : decode cX3_exchange 20 = .ok (.getfield 15, 3) := by decide +kernel
theorem dX3_exchange_23 : decode cX3_exchange 23 = .ok (.iload_n 2, 1) := by decide +kernel
theorem dX3_exchange_24 : decode cX3_exchange 24 = .ok (.iload_n 3, 1) := by decide +kernel
theorem dX3_exchange_25 : decode cX3_exchange 25 = .ok (.invokestatic 25, 3) := by decide +kernel
theorem dX3_exchange_28 : decode cX3_exchange 28 = .ok (.return_, 1) := by decide +kernel
theorem dX3_isKept_0 : decode cX3_isKept 0 = .ok (.iconst 0, 1) := by decide +kernel
theorem dX3_isKept_1 : decode cX3_isKept 1 = .ok (.istore_n 1, 1) := by decide +kernel
theorem dX3_isKept_2 : decode cX3_isKept 2 = .ok (.iload_n 1, 1) := by decide +kernel
theorem dX3_isKept_3 : decode cX3_isKept 3 = .ok (.aload_n 0, 1) := by decide +kernel
theorem dX3_isKept_4 : decode cX3_isKept 4 = .ok (.getfield 18, 3) := by decide +kernel
theorem dX3_isKept_7 : decode cX3_isKept 7 = .ok (.if_icmp .ge 50, 3) := by decide +kernel
theorem dX3_isKept_10 : decode cX3_isKept 10 = .ok (.iconst 0, 1) := by decide +kernel
theorem dX3_isKept_11 : decode cX3_isKept 11 = .ok (.istore_n 2, 1) := by decide +kernel
theorem dX3_isKept_12 : decode cX3_isKept 12 = .ok (.iload_n 2, 1) := by decide +kernel
theorem dX3_isKept_13 : decode cX3_isKept 13 = .ok (.aload_n 0, 1) := by decide +kernel
theorem dX3_isKept_14 : decode cX3_isKept 14 = .ok (.getfield 18, 3) := by decide +kernel
theorem dX3_isKept_17 : decode cX3_isKept 17 = .ok (.if_icmp .ge 34, 3) := by decide +kernel
theorem dX3_isKept_20 : decode cX3_isKept 20 = .ok (.aload_n 0, 1) := by decide +kernel
theorem dX3_isKept_21 : decode cX3_isKept 21 = .ok (.iload_n 1, 1) := by decide +kernel
theorem dX3_isKept_22 : decode cX3_isKept 22 = .ok (.iload_n 2, 1) := by decide +kernel
theorem dX3_isKept_23 : decode cX3_isKept 23 = .ok (.invokevirtual 36, 3) := by decide +kernel
theorem dX3_isKept_26 : decode cX3_isKept 26 = .ok (.aload_n 0, 1) := by decide +kernel
theorem dX3_isKept_27 : decode cX3_isKept 27 = .ok (.aload_n 0, 1) := by decide +kernel
theorem dX3_isKept_28 : decode cX3_isKept 28 = .ok (.iload_n 1, 1) := by decide +kernel
theorem dX3_isKept_29 : decode cX3_isKept 29 = .ok (.invokevirtual 52, 3) := by decide +kernel
theorem dX3_isKept_32 : decode cX3_isKept 32 = .ok (.aload_n 0, 1) := by decide +kernel
theorem dX3_isKept_33 : decode cX3_isKept 33 = .ok (.iload_n 2, 1) := by decide +kernel
theorem dX3_isKept_34 : decode cX3_isKept 34 = .ok (.invokevirtual 52, 3) := by decide +kernel
theorem dX3_isKept_37 : decode cX3_isKept 37 = .ok (.invokevirtual 36, 3) := by decide +kernel
theorem dX3_isKept_40 : decode cX3_isKept 40 = .ok (.if_icmp .eq 5, 3) := by decide +kernel
theorem dX3_isKept_43 : decode cX3_isKept 43 = .ok (.iconst 0, 1) := by decide +kernel
theorem dX3_isKept_44 : decode cX3_isKept 44 = .ok (.ireturn, 1) := by decide +kernel
theorem dX3_isKept_45 : decode cX3_isKept 45 = .ok (.iinc 2 1, 3) := by decide +kernel
theorem dX3_isKept_48 : decode cX3_isKept 48 = .ok (.goto (-36), 3) := by decide +kernel
theorem dX3_isKept_51 : decode cX3_isKept 51 = .ok (.iinc 1 1, 3) := by decide +kernel
theorem dX3_isKept_54 : decode cX3_isKept 54 = .ok (.goto (-52), 3) := by decide +kernel
theorem dX3_isKept_57 : decode cX3_isKept 57 = .ok (.iconst 1, 1) := by decide +kernel
theorem dX3_isKept_58 : decode cX3_isKept 58 = .ok (.ireturn, 1) := by decide +kernel
theorem dX4_init_0 : decode cX4_init 0 = .ok (.aload_n 0, 1) := by decide +kernel
theorem dX4_init_1 : decode cX4_init 1 = .ok (.aload_n 1, 1) := by decide +kernel
theorem dX4_init_2 : decode cX4_init 2 = .ok (.aload_n 2, 1) := by decide +kernel
theorem dX4_init_3 : decode cX4_init 3 = .ok (.aload_n 3, 1) := by decide +kernel
theorem dX4_init_4 : decode cX4_init 4 = .ok (.invokespecial 1, 3) := by decide +kernel
theorem dX4_init_7 : decode cX4_init 7 = .ok (.return_, 1) := by decide +kernel
theorem dX4_whole_0 : decode cX4_whole 0 = .ok (.aload_n 0, 1) := by decide +kernel
theorem dX4_whole_1 : decode cX4_whole 1 = .ok (.getfield 7, 3) := by decide +kernel
theorem dX4_whole_4 : decode cX4_whole 4 = .ok (.invokevirtual 13, 3) := by decide +kernel
theorem dX4_whole_7 : decode cX4_whole 7 = .ok (.ireturn, 1) := by decide +kernel
theorem dX4_denied_0 : decode cX4_denied 0 = .ok (.aload_n 0, 1) := by decide +kernel
theorem dX4_denied_1 : decode cX4_denied 1 = .ok (.getfield 7, 3) := by decide +kernel
theorem dX4_denied_4 : decode cX4_denied 4 = .ok (.invokevirtual 13, 3) := by decide +kernel
theorem dX4_denied_7 : decode cX4_denied 7 = .ok (.iload_n 1, 1) := by decide +kernel
theorem dX4_denied_8 : decode cX4_denied 8 = .ok (.iconst (-1), 1) := by decide +kernel
theorem dX4_denied_9 : decode cX4_denied 9 = .ok (.ixor, 1) := by decide +kernel
theorem dX4_denied_10 : decode cX4_denied 10 = .ok (.iand, 1) := by decide +kernel
theorem dX4_denied_11 : decode cX4_denied 11 = .ok (.ireturn, 1) := by decide +kernel
theorem dX4_along_0 : decode cX4_along 0 = .ok (.aload_n 0, 1) := by decide +kernel
theorem dX4_along_1 : decode cX4_along 1 = .ok (.getfield 7, 3) := by decide +kernel
theorem dX4_along_4 : decode cX4_along 4 = .ok (.iload_n 1, 1) := by decide +kernel
theorem dX4_along_5 : decode cX4_along 5 = .ok (.invokevirtual 19, 3) := by decide +kernel
theorem dX4_along_8 : decode cX4_along 8 = .ok (.iload_n 2, 1) := by decide +kernel
theorem dX4_along_9 : decode cX4_along 9 = .ok (.iand, 1) := by decide +kernel
theorem dX4_along_10 : decode cX4_along 10 = .ok (.ireturn, 1) := by decide +kernel
theorem dX4_unless_0 : decode cX4_unless 0 = .ok (.aload_n 0, 1) := by decide +kernel
theorem dX4_unless_1 : decode cX4_unless 1 = .ok (.getfield 7, 3) := by decide +kernel
theorem dX4_unless_4 : decode cX4_unless 4 = .ok (.invokevirtual 13, 3) := by decide +kernel
theorem dX4_unless_7 : decode cX4_unless 7 = .ok (.aload_n 0, 1) := by decide +kernel
theorem dX4_unless_8 : decode cX4_unless 8 = .ok (.getfield 7, 3) := by decide +kernel
theorem dX4_unless_11 : decode cX4_unless 11 = .ok (.iload_n 1, 1) := by decide +kernel
theorem dX4_unless_12 : decode cX4_unless 12 = .ok (.invokevirtual 19, 3) := by decide +kernel
theorem dX4_unless_15 : decode cX4_unless 15 = .ok (.iconst (-1), 1) := by decide +kernel
theorem dX4_unless_16 : decode cX4_unless 16 = .ok (.ixor, 1) := by decide +kernel
theorem dX4_unless_17 : decode cX4_unless 17 = .ok (.iand, 1) := by decide +kernel
theorem dX4_unless_18 : decode cX4_unless 18 = .ok (.iload_n 2, 1) := by decide +kernel
theorem dX4_unless_19 : decode cX4_unless 19 = .ok (.ior, 1) := by decide +kernel
theorem dX4_unless_20 : decode cX4_unless 20 = .ok (.ireturn, 1) := by decide +kernel
theorem dX4_settled_0 : decode cX4_settled 0 = .ok (.iload_n 1, 1) := by decide +kernel
theorem dX4_settled_1 : decode cX4_settled 1 = .ok (.ireturn, 1) := by decide +kernel
theorem dX5_init_0 : decode cX5_init 0 = .ok (.aload_n 0, 1) := by decide +kernel
theorem dX5_init_1 : decode cX5_init 1 = .ok (.invokespecial 3, 3) := by decide +kernel
theorem dX5_init_4 : decode cX5_init 4 = .ok (.aload_n 0, 1) := by decide +kernel
theorem dX5_init_5 : decode cX5_init 5 = .ok (.sipush 144, 3) := by decide +kernel
theorem dX5_init_8 : decode cX5_init 8 = .ok (.newarray .int, 2) := by decide +kernel
theorem dX5_init_10 : decode cX5_init 10 = .ok (.putfield 9, 3) := by decide +kernel
theorem dX5_init_13 : decode cX5_init 13 = .ok (.aload_n 0, 1) := by decide +kernel
theorem dX5_init_14 : decode cX5_init 14 = .ok (.sipush 144, 3) := by decide +kernel
theorem dX5_init_17 : decode cX5_init 17 = .ok (.newarray .int, 2) := by decide +kernel
theorem dX5_init_19 : decode cX5_init 19 = .ok (.putfield 15, 3) := by decide +kernel
theorem dX5_init_22 : decode cX5_init 22 = .ok (.aload_n 0, 1) := by decide +kernel
theorem dX5_init_23 : decode cX5_init 23 = .ok (.iconst 4, 1) := by decide +kernel
theorem dX5_init_24 : decode cX5_init 24 = .ok (.newarray .int, 2) := by decide +kernel
theorem dX5_init_26 : decode cX5_init 26 = .ok (.putfield 18, 3) := by decide +kernel
theorem dX5_init_29 : decode cX5_init 29 = .ok (.aload_n 0, 1) := by decide +kernel
theorem dX5_init_30 : decode cX5_init 30 = .ok (.aload_n 1, 1) := by decide +kernel
theorem dX5_init_31 : decode cX5_init 31 = .ok (.putfield 21, 3) := by decide +kernel
theorem dX5_init_34 : decode cX5_init 34 = .ok (.aload_n 0, 1) := by decide +kernel
theorem dX5_init_35 : decode cX5_init 35 = .ok (.aload_n 2, 1) := by decide +kernel
theorem dX5_init_36 : decode cX5_init 36 = .ok (.putfield 25, 3) := by decide +kernel
theorem dX5_init_39 : decode cX5_init 39 = .ok (.aload_n 0, 1) := by decide +kernel
theorem dX5_init_40 : decode cX5_init 40 = .ok (.aload_n 3, 1) := by decide +kernel
theorem dX5_init_41 : decode cX5_init 41 = .ok (.putfield 29, 3) := by decide +kernel
theorem dX5_init_44 : decode cX5_init 44 = .ok (.return_, 1) := by decide +kernel
theorem dX5_alike_0 : decode cX5_alike 0 = .ok (.aload_n 0, 1) := by decide +kernel
theorem dX5_alike_1 : decode cX5_alike 1 = .ok (.invokevirtual 33, 3) := by decide +kernel
theorem dX5_alike_4 : decode cX5_alike 4 = .ok (.aload_n 0, 1) := by decide +kernel
theorem dX5_alike_5 : decode cX5_alike 5 = .ok (.getfield 9, 3) := by decide +kernel
theorem dX5_alike_8 : decode cX5_alike 8 = .ok (.iload_n 1, 1) := by decide +kernel
theorem dX5_alike_9 : decode cX5_alike 9 = .ok (.bipush 12, 2) := by decide +kernel
theorem dX5_alike_11 : decode cX5_alike 11 = .ok (.imul, 1) := by decide +kernel
theorem dX5_alike_12 : decode cX5_alike 12 = .ok (.iload_n 2, 1) := by decide +kernel
theorem dX5_alike_13 : decode cX5_alike 13 = .ok (.iadd, 1) := by decide +kernel
theorem dX5_alike_14 : decode cX5_alike 14 = .ok (.invokestatic 36, 3) := by decide +kernel
theorem dX5_alike_17 : decode cX5_alike 17 = .ok (.ireturn, 1) := by decide +kernel
theorem dX5_inside_0 : decode cX5_inside 0 = .ok (.aload_n 0, 1) := by decide +kernel
theorem dX5_inside_1 : decode cX5_inside 1 = .ok (.invokevirtual 33, 3) := by decide +kernel
theorem dX5_inside_4 : decode cX5_inside 4 = .ok (.aload_n 0, 1) := by decide +kernel
theorem dX5_inside_5 : decode cX5_inside 5 = .ok (.getfield 15, 3) := by decide +kernel
theorem dX5_inside_8 : decode cX5_inside 8 = .ok (.iload_n 1, 1) := by decide +kernel
theorem dX5_inside_9 : decode cX5_inside 9 = .ok (.bipush 12, 2) := by decide +kernel
theorem dX5_inside_11 : decode cX5_inside 11 = .ok (.imul, 1) := by decide +kernel
theorem dX5_inside_12 : decode cX5_inside 12 = .ok (.iload_n 2, 1) := by decide +kernel
theorem dX5_inside_13 : decode cX5_inside 13 = .ok (.iadd, 1) := by decide +kernel
theorem dX5_inside_14 : decode cX5_inside 14 = .ok (.invokestatic 36, 3) := by decide +kernel
theorem dX5_inside_17 : decode cX5_inside 17 = .ok (.ireturn, 1) := by decide +kernel
theorem dX5_judge_0 : decode cX5_judge 0 = .ok (.aload_n 0, 1) := by decide +kernel
theorem dX5_judge_1 : decode cX5_judge 1 = .ok (.invokevirtual 33, 3) := by decide +kernel
theorem dX5_judge_4 : decode cX5_judge 4 = .ok (.aload_n 0, 1) := by decide +kernel
theorem dX5_judge_5 : decode cX5_judge 5 = .ok (.iload_n 1, 1) := by decide +kernel
theorem dX5_judge_6 : decode cX5_judge 6 = .ok (.iconst 1, 1) := by decide +kernel
theorem dX5_judge_7 : decode cX5_judge 7 = .ok (.invokevirtual 40, 3) := by decide +kernel
theorem dX5_judge_10 : decode cX5_judge 10 = .ok (.ireturn, 1) := by decide +kernel
theorem dX5_judged_0 : decode cX5_judged 0 = .ok (.iload_n 2, 1) := by decide +kernel
theorem dX5_judged_1 : decode cX5_judged 1 = .ok (.iconst 5, 1) := by decide +kernel
theorem dX5_judged_2 : decode cX5_judged 2 = .ok (.if_icmp .gt 14, 3) := by decide +kernel
theorem dX5_judged_5 : decode cX5_judged 5 = .ok (.aload_n 0, 1) := by decide +kernel
theorem dX5_judged_6 : decode cX5_judged 6 = .ok (.getfield 29, 3) := by decide +kernel
theorem dX5_judged_9 : decode cX5_judged 9 = .ok (.iload_n 1, 1) := by decide +kernel
theorem dX5_judged_10 : decode cX5_judged 10 = .ok (.invokevirtual 44, 3) := by decide +kernel
theorem dX5_judged_13 : decode cX5_judged 13 = .ok (.ifCond .ne 5, 3) := by decide +kernel
theorem dX5_judged_16 : decode cX5_judged 16 = .ok (.iconst 0, 1) := by decide +kernel
theorem dX5_judged_17 : decode cX5_judged 17 = .ok (.ireturn, 1) := by decide +kernel
theorem dX5_judged_18 : decode cX5_judged 18 = .ok (.aload_n 0, 1) := by decide +kernel
theorem dX5_judged_19 : decode cX5_judged 19 = .ok (.getfield 29, 3) := by decide +kernel
theorem dX5_judged_22 : decode cX5_judged 22 = .ok (.iload_n 1, 1) := by decide +kernel
theorem dX5_judged_23 : decode cX5_judged 23 = .ok (.invokevirtual 50, 3) := by decide +kernel
theorem dX5_judged_26 : decode cX5_judged 26 = .ok (.istore_n 3, 1) := by decide +kernel
theorem dX5_judged_27 : decode cX5_judged 27 = .ok (.aload_n 0, 1) := by decide +kernel
theorem dX5_judged_28 : decode cX5_judged 28 = .ok (.getfield 29, 3) := by decide +kernel
theorem dX5_judged_31 : decode cX5_judged 31 = .ok (.iload_n 1, 1) := by decide +kernel
theorem dX5_judged_32 : decode cX5_judged 32 = .ok (.invokevirtual 54, 3) := by decide +kernel
theorem dX5_judged_35 : decode cX5_judged 35 = .ok (.istore 4, 2) := by decide +kernel
theorem dX5_judged_37 : decode cX5_judged 37 = .ok (.aload_n 0, 1) := by decide +kernel
theorem dX5_judged_38 : decode cX5_judged 38 = .ok (.getfield 29, 3) := by decide +kernel
theorem dX5_judged_41 : decode cX5_judged 41 = .ok (.iload_n 1, 1) := by decide +kernel
theorem dX5_judged_42 : decode cX5_judged 42 = .ok (.invokevirtual 57, 3) := by decide +kernel
theorem dX5_judged_45 : decode cX5_judged 45 = .ok (.lookupswitch 152 #[(61, 74), (97, 97), (101, 51), (110, 139), (111, 116)], 51) := by decide +kernel
theorem dX5_judged_96 : decode cX5_judged 96 = .ok (.aload_n 0, 1) := by decide +kernel
theorem dX5_judged_97 : decode cX5_judged 97 = .ok (.getfield 15, 3) := by decide +kernel
theorem dX5_judged_100 : decode cX5_judged 100 = .ok (.aload_n 0, 1) := by decide +kernel
theorem dX5_judged_101 : decode cX5_judged 101 = .ok (.iload_n 3, 1) := by decide +kernel
theorem dX5_judged_102 : decode cX5_judged 102 = .ok (.invokevirtual 60, 3) := by decide +kernel
theorem dX5_judged_105 : decode cX5_judged 105 = .ok (.bipush 12, 2) := by decide +kernel
theorem dX5_judged_107 : decode cX5_judged 107 = .ok (.imul, 1) := by decide +kernel
theorem dX5_judged_108 : decode cX5_judged 108 = .ok (.aload_n 0, 1) := by decide +kernel
theorem dX5_judged_109 : decode cX5_judged 109 = .ok (.iload 4, 2) := by decide +kernel
theorem dX5_judged_111 : decode cX5_judged 111 = .ok (.invokevirtual 60, 3) := by decide +kernel
theorem dX5_judged_114 : decode cX5_judged 114 = .ok (.iadd, 1) := by decide +kernel
theorem dX5_judged_115 : decode cX5_judged 115 = .ok (.invokestatic 36, 3) := by decide +kernel
theorem dX5_judged_118 : decode cX5_judged 118 = .ok (.ireturn, 1) := by decide +kernel
theorem dX5_judged_119 : decode cX5_judged 119 = .ok (.aload_n 0, 1) := by decide +kernel
theorem dX5_judged_120 : decode cX5_judged 120 = .ok (.getfield 9, 3) := by decide +kernel
theorem dX5_judged_123 : decode cX5_judged 123 = .ok (.aload_n 0, 1) := by decide +kernel
theorem dX5_judged_124 : decode cX5_judged 124 = .ok (.iload_n 3, 1) := by decide +kernel
theorem dX5_judged_125 : decode cX5_judged 125 = .ok (.invokevirtual 60, 3) := by decide +kernel
theorem dX5_judged_128 : decode cX5_judged 128 = .ok (.bipush 12, 2) := by decide +kernel
theorem dX5_judged_130 : decode cX5_judged 130 = .ok (.imul, 1) := by decide +kernel
theorem dX5_judged_131 : decode cX5_judged 131 = .ok (.aload_n 0, 1) := by decide +kernel
theorem dX5_judged_132 : decode cX5_judged 132 = .ok (.iload 4, 2) := by decide +kernel
theorem dX5_judged_134 : decode cX5_judged 134 = .ok (.invokevirtual 60, 3) := by decide +kernel
theorem dX5_judged_137 : decode cX5_judged 137 = .ok (.iadd, 1) := by decide +kernel
theorem dX5_judged_138 : decode cX5_judged 138 = .ok (.invokestatic 36, 3) := by decide +kernel
theorem dX5_judged_141 : decode cX5_judged 141 = .ok (.ireturn, 1) := by decide +kernel
theorem dX5_judged_142 : decode cX5_judged 142 = .ok (.aload_n 0, 1) := by decide +kernel
theorem dX5_judged_143 : decode cX5_judged 143 = .ok (.iload_n 3, 1) := by decide +kernel
theorem dX5_judged_144 : decode cX5_judged 144 = .ok (.iload_n 2, 1) := by decide +kernel
theorem dX5_judged_145 : decode cX5_judged 145 = .ok (.iconst 1, 1) := by decide +kernel
theorem dX5_judged_146 : decode cX5_judged 146 = .ok (.iadd, 1) := by decide +kernel
theorem dX5_judged_147 : decode cX5_judged 147 = .ok (.invokevirtual 40, 3) := by decide +kernel
theorem dX5_judged_150 : decode cX5_judged 150 = .ok (.aload_n 0, 1) := by decide +kernel
theorem dX5_judged_151 : decode cX5_judged 151 = .ok (.iload 4, 2) := by decide +kernel
theorem dX5_judged_153 : decode cX5_judged 153 = .ok (.iload_n 2, 1) := by decide +kernel
theorem dX5_judged_154 : decode cX5_judged 154 = .ok (.iconst 1, 1) := by decide +kernel
theorem dX5_judged_155 : decode cX5_judged 155 = .ok (.iadd, 1) := by decide +kernel
theorem dX5_judged_156 : decode cX5_judged 156 = .ok (.invokevirtual 40, 3) := by decide +kernel
theorem dX5_judged_159 : decode cX5_judged 159 = .ok (.iand, 1) := by decide +kernel
theorem dX5_judged_160 : decode cX5_judged 160 = .ok (.ireturn, 1) := by decide +kernel
theorem dX5_judged_161 : decode cX5_judged 161 = .ok (.aload_n 0, 1) := by decide +kernel
theorem dX5_judged_162 : decode cX5_judged 162 = .ok (.aload_n 0, 1) := by decide +kernel
theorem dX5_judged_163 : decode cX5_judged 163 = .ok (.iload_n 3, 1) := by decide +kernel
theorem dX5_judged_164 : decode cX5_judged 164 = .ok (.iload_n 2, 1) := by decide +kernel
theorem dX5_judged_165 : decode cX5_judged 165 = .ok (.iconst 1, 1) := by decide +kernel
theorem dX5_judged_166 : decode cX5_judged 166 = .ok (.iadd, 1) := by decide +kernel
theorem dX5_judged_167 : decode cX5_judged 167 = .ok (.invokevirtual 40, 3) := by decide +kernel
theorem dX5_judged_170 : decode cX5_judged 170 = .ok (.aload_n 0, 1) := by decide +kernel
theorem dX5_judged_171 : decode cX5_judged 171 = .ok (.iload 4, 2) := by decide +kernel
theorem dX5_judged_173 : decode cX5_judged 173 = .ok (.iload_n 2, 1) := by decide +kernel
theorem dX5_judged_174 : decode cX5_judged 174 = .ok (.iconst 1, 1) := by decide +kernel
theorem dX5_judged_175 : decode cX5_judged 175 = .ok (.iadd, 1) := by decide +kernel
theorem dX5_judged_176 : decode cX5_judged 176 = .ok (.invokevirtual 40, 3) := by decide +kernel
theorem dX5_judged_179 : decode cX5_judged 179 = .ok (.ior, 1) := by decide +kernel
theorem dX5_judged_180 : decode cX5_judged 180 = .ok (.invokevirtual 63, 3) := by decide +kernel
theorem dX5_judged_183 : decode cX5_judged 183 = .ok (.ireturn, 1) := by decide +kernel
theorem dX5_judged_184 : decode cX5_judged 184 = .ok (.aload_n 0, 1) := by decide +kernel
theorem dX5_judged_185 : decode cX5_judged 185 = .ok (.aload_n 0, 1) := by decide +kernel
theorem dX5_judged_186 : decode cX5_judged 186 = .ok (.iload_n 3, 1) := by decide +kernel
theorem dX5_judged_187 : decode cX5_judged 187 = .ok (.iload_n 2, 1) := by decide +kernel
theorem dX5_judged_188 : decode cX5_judged 188 = .ok (.iconst 1, 1) := by decide +kernel
theorem dX5_judged_189 : decode cX5_judged 189 = .ok (.iadd, 1) := by decide +kernel
theorem dX5_judged_190 : decode cX5_judged 190 = .ok (.invokevirtual 40, 3) := by decide +kernel
theorem dX5_judged_193 : decode cX5_judged 193 = .ok (.invokevirtual 66, 3) := by decide +kernel
theorem dX5_judged_196 : decode cX5_judged 196 = .ok (.ireturn, 1) := by decide +kernel
theorem dX5_judged_197 : decode cX5_judged 197 = .ok (.aload_n 0, 1) := by decide +kernel
theorem dX5_judged_198 : decode cX5_judged 198 = .ok (.iload_n 1, 1) := by decide +kernel
theorem dX5_judged_199 : decode cX5_judged 199 = .ok (.iload_n 2, 1) := by decide +kernel
theorem dX5_judged_200 : decode cX5_judged 200 = .ok (.invokevirtual 69, 3) := by decide +kernel
theorem dX5_judged_203 : decode cX5_judged 203 = .ok (.ireturn, 1) := by decide +kernel
theorem dX5_judgedBound_0 : decode cX5_judgedBound 0 = .ok (.aload_n 0, 1) := by decide +kernel
theorem dX5_judgedBound_1 : decode cX5_judgedBound 1 = .ok (.aload_n 0, 1) := by decide +kernel
theorem dX5_judgedBound_2 : decode cX5_judgedBound 2 = .ok (.getfield 29, 3) := by decide +kernel
theorem dX5_judgedBound_5 : decode cX5_judgedBound 5 = .ok (.iload_n 1, 1) := by decide +kernel
theorem dX5_judgedBound_6 : decode cX5_judgedBound 6 = .ok (.invokevirtual 50, 3) := by decide +kernel
theorem dX5_judgedBound_9 : decode cX5_judgedBound 9 = .ok (.invokevirtual 60, 3) := by decide +kernel
theorem dX5_judgedBound_12 : decode cX5_judgedBound 12 = .ok (.istore_n 3, 1) := by decide +kernel
theorem dX5_judgedBound_13 : decode cX5_judgedBound 13 = .ok (.aload_n 0, 1) := by decide +kernel
theorem dX5_judgedBound_14 : decode cX5_judgedBound 14 = .ok (.getfield 29, 3) := by decide +kernel
theorem dX5_judgedBound_17 : decode cX5_judgedBound 17 = .ok (.iload_n 1, 1) := by decide +kernel
theorem dX5_judgedBound_18 : decode cX5_judgedBound 18 = .ok (.invokevirtual 72, 3) := by decide +kernel
theorem dX5_judgedBound_21 : decode cX5_judgedBound 21 = .ok (.istore 4, 2) := by decide +kernel
theorem dX5_judgedBound_23 : decode cX5_judgedBound 23 = .ok (.aload_n 0, 1) := by decide +kernel
theorem dX5_judgedBound_24 : decode cX5_judgedBound 24 = .ok (.getfield 18, 3) := by decide +kernel
theorem dX5_judgedBound_27 : decode cX5_judgedBound 27 = .ok (.iload 4, 2) := by decide +kernel
theorem dX5_judgedBound_29 : decode cX5_judgedBound 29 = .ok (.invokestatic 36, 3) := by decide +kernel
theorem dX5_judgedBound_32 : decode cX5_judgedBound 32 = .ok (.istore 5, 2) := by decide +kernel
theorem dX5_judgedBound_34 : decode cX5_judgedBound 34 = .ok (.aload_n 0, 1) := by decide +kernel
theorem dX5_judgedBound_35 : decode cX5_judgedBound 35 = .ok (.invokevirtual 75, 3) := by decide +kernel
theorem dX5_judgedBound_38 : decode cX5_judgedBound 38 = .ok (.istore 6, 2) := by decide +kernel
theorem dX5_judgedBound_40 : decode cX5_judgedBound 40 = .ok (.iconst 0, 1) := by decide +kernel
theorem dX5_judgedBound_41 : decode cX5_judgedBound 41 = .ok (.istore 7, 2) := by decide +kernel
theorem dX5_judgedBound_43 : decode cX5_judgedBound 43 = .ok (.iconst 0, 1) := by decide +kernel
theorem dX5_judgedBound_44 : decode cX5_judgedBound 44 = .ok (.istore 8, 2) := by decide +kernel
theorem dX5_judgedBound_46 : decode cX5_judgedBound 46 = .ok (.iload 8, 2) := by decide +kernel
theorem dX5_judgedBound_48 : decode cX5_judgedBound 48 = .ok (.aload_n 0, 1) := by decide +kernel
theorem dX5_judgedBound_49 : decode cX5_judgedBound 49 = .ok (.getfield 25, 3) := by decide +kernel
theorem dX5_judgedBound_52 : decode cX5_judgedBound 52 = .ok (.iload_n 3, 1) := by decide +kernel
theorem dX5_judgedBound_53 : decode cX5_judgedBound 53 = .ok (.invokevirtual 79, 3) := by decide +kernel
theorem dX5_judgedBound_56 : decode cX5_judgedBound 56 = .ok (.if_icmp .ge 87, 3) := by decide +kernel
theorem dX5_judgedBound_59 : decode cX5_judgedBound 59 = .ok (.aload_n 0, 1) := by decide +kernel
theorem dX5_judgedBound_60 : decode cX5_judgedBound 60 = .ok (.getfield 18, 3) := by decide +kernel
theorem dX5_judgedBound_63 : decode cX5_judgedBound 63 = .ok (.iload 4, 2) := by decide +kernel
theorem dX5_judgedBound_65 : decode cX5_judgedBound 65 = .ok (.aload_n 0, 1) := by decide +kernel
theorem dX5_judgedBound_66 : decode cX5_judgedBound 66 = .ok (.getfield 25, 3) := by decide +kernel
theorem dX5_judgedBound_69 : decode cX5_judgedBound 69 = .ok (.iload_n 3, 1) := by decide +kernel
theorem dX5_judgedBound_70 : decode cX5_judgedBound 70 = .ok (.iload 8, 2) := by decide +kernel
theorem dX5_judgedBound_72 : decode cX5_judgedBound 72 = .ok (.invokevirtual 84, 3) := by decide +kernel
theorem dX5_judgedBound_75 : decode cX5_judgedBound 75 = .ok (.invokestatic 87, 3) := by decide +kernel
theorem dX5_judgedBound_78 : decode cX5_judgedBound 78 = .ok (.aload_n 0, 1) := by decide +kernel
theorem dX5_judgedBound_79 : decode cX5_judgedBound 79 = .ok (.aload_n 0, 1) := by decide +kernel
theorem dX5_judgedBound_80 : decode cX5_judgedBound 80 = .ok (.getfield 29, 3) := by decide +kernel
theorem dX5_judgedBound_83 : decode cX5_judgedBound 83 = .ok (.iload_n 1, 1) := by decide +kernel
theorem dX5_judgedBound_84 : decode cX5_judgedBound 84 = .ok (.invokevirtual 54, 3) := by decide +kernel
theorem dX5_judgedBound_87 : decode cX5_judgedBound 87 = .ok (.iload_n 2, 1) := by decide +kernel
theorem dX5_judgedBound_88 : decode cX5_judgedBound 88 = .ok (.iconst 1, 1) := by decide +kernel
theorem dX5_judgedBound_89 : decode cX5_judgedBound 89 = .ok (.iadd, 1) := by decide +kernel
theorem dX5_judgedBound_90 : decode cX5_judgedBound 90 = .ok (.invokevirtual 40, 3) := by decide +kernel
theorem dX5_judgedBound_93 : decode cX5_judgedBound 93 = .ok (.istore 9, 2) := by decide +kernel
theorem dX5_judgedBound_95 : decode cX5_judgedBound 95 = .ok (.iload 6, 2) := by decide +kernel
theorem dX5_judgedBound_97 : decode cX5_judgedBound 97 = .ok (.aload_n 0, 1) := by decide +kernel
theorem dX5_judgedBound_98 : decode cX5_judgedBound 98 = .ok (.aload_n 0, 1) := by decide +kernel
theorem dX5_judgedBound_99 : decode cX5_judgedBound 99 = .ok (.getfield 25, 3) := by decide +kernel
theorem dX5_judgedBound_102 : decode cX5_judgedBound 102 = .ok (.iload_n 3, 1) := by decide +kernel
theorem dX5_judgedBound_103 : decode cX5_judgedBound 103 = .ok (.iload 8, 2) := by decide +kernel
theorem dX5_judgedBound_105 : decode cX5_judgedBound 105 = .ok (.invokevirtual 91, 3) := by decide +kernel
theorem dX5_judgedBound_108 : decode cX5_judgedBound 108 = .ok (.iload 9, 2) := by decide +kernel
theorem dX5_judgedBound_110 : decode cX5_judgedBound 110 = .ok (.invokevirtual 94, 3) := by decide +kernel
theorem dX5_judgedBound_113 : decode cX5_judgedBound 113 = .ok (.iand, 1) := by decide +kernel
theorem dX5_judgedBound_114 : decode cX5_judgedBound 114 = .ok (.istore 6, 2) := by decide +kernel
theorem dX5_judgedBound_116 : decode cX5_judgedBound 116 = .ok (.iload 7, 2) := by decide +kernel
theorem dX5_judgedBound_118 : decode cX5_judgedBound 118 = .ok (.aload_n 0, 1) := by decide +kernel
theorem dX5_judgedBound_119 : decode cX5_judgedBound 119 = .ok (.aload_n 0, 1) := by decide +kernel
theorem dX5_judgedBound_120 : decode cX5_judgedBound 120 = .ok (.getfield 25, 3) := by decide +kernel
theorem dX5_judgedBound_123 : decode cX5_judgedBound 123 = .ok (.iload_n 3, 1) := by decide +kernel
theorem dX5_judgedBound_124 : decode cX5_judgedBound 124 = .ok (.iload 8, 2) := by decide +kernel
theorem dX5_judgedBound_126 : decode cX5_judgedBound 126 = .ok (.invokevirtual 91, 3) := by decide +kernel
theorem dX5_judgedBound_129 : decode cX5_judgedBound 129 = .ok (.iload 9, 2) := by decide +kernel
theorem dX5_judgedBound_131 : decode cX5_judgedBound 131 = .ok (.invokevirtual 97, 3) := by decide +kernel
theorem dX5_judgedBound_134 : decode cX5_judgedBound 134 = .ok (.ior, 1) := by decide +kernel
theorem dX5_judgedBound_135 : decode cX5_judgedBound 135 = .ok (.istore 7, 2) := by decide +kernel
theorem dX5_judgedBound_137 : decode cX5_judgedBound 137 = .ok (.iinc 8 1, 3) := by decide +kernel
theorem dX5_judgedBound_140 : decode cX5_judgedBound 140 = .ok (.goto (-94), 3) := by decide +kernel
theorem dX5_judgedBound_143 : decode cX5_judgedBound 143 = .ok (.aload_n 0, 1) := by decide +kernel
theorem dX5_judgedBound_144 : decode cX5_judgedBound 144 = .ok (.getfield 18, 3) := by decide +kernel
theorem dX5_judgedBound_147 : decode cX5_judgedBound 147 = .ok (.iload 4, 2) := by decide +kernel
theorem dX5_judgedBound_149 : decode cX5_judgedBound 149 = .ok (.iload 5, 2) := by decide +kernel
theorem dX5_judgedBound_151 : decode cX5_judgedBound 151 = .ok (.invokestatic 87, 3) := by decide +kernel
theorem dX5_judgedBound_154 : decode cX5_judgedBound 154 = .ok (.aload_n 0, 1) := by decide +kernel
theorem dX5_judgedBound_155 : decode cX5_judgedBound 155 = .ok (.getfield 29, 3) := by decide +kernel
theorem dX5_judgedBound_158 : decode cX5_judgedBound 158 = .ok (.iload_n 1, 1) := by decide +kernel
theorem dX5_judgedBound_159 : decode cX5_judgedBound 159 = .ok (.invokevirtual 57, 3) := by decide +kernel
theorem dX5_judgedBound_162 : decode cX5_judgedBound 162 = .ok (.bipush 65, 2) := by decide +kernel
theorem dX5_judgedBound_164 : decode cX5_judgedBound 164 = .ok (.if_icmp .ne 8, 3) := by decide +kernel
theorem dX5_judgedBound_167 : decode cX5_judgedBound 167 = .ok (.iload 6, 2) := by decide +kernel
theorem dX5_judgedBound_169 : decode cX5_judgedBound 169 = .ok (.goto 9, 3) := by decide +kernel
theorem dX5_judgedBound_172 : decode cX5_judgedBound 172 = .ok (.aload_n 0, 1) := by decide +kernel
theorem dX5_judgedBound_173 : decode cX5_judgedBound 173 = .ok (.iload 7, 2) := by decide +kernel
theorem dX5_judgedBound_175 : decode cX5_judgedBound 175 = .ok (.invokevirtual 63, 3) := by decide +kernel
theorem dX5_judgedBound_178 : decode cX5_judgedBound 178 = .ok (.ireturn, 1) := by decide +kernel
theorem dX5_named_0 : decode cX5_named 0 = .ok (.iload_n 1, 1) := by decide +kernel
theorem dX5_named_1 : decode cX5_named 1 = .ok (.invokestatic 100, 3) := by decide +kernel
theorem dX5_named_4 : decode cX5_named 4 = .ok (.ifCond .eq 17, 3) := by decide +kernel
theorem dX5_named_7 : decode cX5_named 7 = .ok (.aload_n 0, 1) := by decide +kernel
theorem dX5_named_8 : decode cX5_named 8 = .ok (.getfield 18, 3) := by decide +kernel
theorem dX5_named_11 : decode cX5_named 11 = .ok (.iload_n 1, 1) := by decide +kernel
theorem dX5_named_12 : decode cX5_named 12 = .ok (.bipush 100, 2) := by decide +kernel
theorem dX5_named_14 : decode cX5_named 14 = .ok (.isub, 1) := by decide +kernel
theorem dX5_named_15 : decode cX5_named 15 = .ok (.invokestatic 36, 3) := by decide +kernel
theorem dX5_named_18 : decode cX5_named 18 = .ok (.goto 4, 3) := by decide +kernel
theorem dX5_named_21 : decode cX5_named 21 = .ok (.iload_n 1, 1) := by decide +kernel
theorem dX5_named_22 : decode cX5_named 22 = .ok (.ireturn, 1) := by decide +kernel
theorem dX5_refresh_0 : decode cX5_refresh 0 = .ok (.aload_n 0, 1) := by decide +kernel
theorem dX5_refresh_1 : decode cX5_refresh 1 = .ok (.getfield 21, 3) := by decide +kernel
theorem dX5_refresh_4 : decode cX5_refresh 4 = .ok (.invokevirtual 103, 3) := by decide +kernel
theorem dX5_refresh_7 : decode cX5_refresh 7 = .ok (.aload_n 0, 1) := by decide +kernel
theorem dX5_refresh_8 : decode cX5_refresh 8 = .ok (.getfield 25, 3) := by decide +kernel
theorem dX5_refresh_11 : decode cX5_refresh 11 = .ok (.invokevirtual 108, 3) := by decide +kernel
theorem dX5_refresh_14 : decode cX5_refresh 14 = .ok (.iadd, 1) := by decide +kernel
theorem dX5_refresh_15 : decode cX5_refresh 15 = .ok (.istore_n 1, 1) := by decide +kernel
theorem dX5_refresh_16 : decode cX5_refresh 16 = .ok (.aload_n 0, 1) := by decide +kernel
theorem dX5_refresh_17 : decode cX5_refresh 17 = .ok (.getfield 109, 3) := by decide +kernel
theorem dX5_refresh_20 : decode cX5_refresh 20 = .ok (.iload_n 1, 1) := by decide +kernel
theorem dX5_refresh_21 : decode cX5_refresh 21 = .ok (.if_icmp .ne 4, 3) := by decide +kernel
theorem dX5_refresh_24 : decode cX5_refresh 24 = .ok (.return_, 1) := by decide +kernel
theorem dX5_refresh_25 : decode cX5_refresh 25 = .ok (.aload_n 0, 1) := by decide +kernel
theorem dX5_refresh_26 : decode cX5_refresh 26 = .ok (.iload_n 1, 1) := by decide +kernel
theorem dX5_refresh_27 : decode cX5_refresh 27 = .ok (.putfield 109, 3) := by decide +kernel
theorem dX5_refresh_30 : decode cX5_refresh 30 = .ok (.iconst 0, 1) := by decide +kernel
theorem dX5_refresh_31 : decode cX5_refresh 31 = .ok (.istore_n 2, 1) := by decide +kernel
theorem dX5_refresh_32 : decode cX5_refresh 32 = .ok (.iload_n 2, 1) := by decide +kernel
theorem dX5_refresh_33 : decode cX5_refresh 33 = .ok (.iconst 2, 1) := by decide +kernel
theorem dX5_refresh_34 : decode cX5_refresh 34 = .ok (.aload_n 0, 1) := by decide +kernel
theorem dX5_refresh_35 : decode cX5_refresh 35 = .ok (.getfield 25, 3) := by decide +kernel
theorem dX5_refresh_38 : decode cX5_refresh 38 = .ok (.invokevirtual 113, 3) := by decide +kernel
theorem dX5_refresh_41 : decode cX5_refresh 41 = .ok (.iconst 1, 1) := by decide +kernel
theorem dX5_refresh_42 : decode cX5_refresh 42 = .ok (.isub, 1) := by decide +kernel
theorem dX5_refresh_43 : decode cX5_refresh 43 = .ok (.imul, 1) := by decide +kernel
theorem dX5_refresh_44 : decode cX5_refresh 44 = .ok (.if_icmp .gt 102, 3) := by decide +kernel
theorem dX5_refresh_47 : decode cX5_refresh 47 = .ok (.iconst 0, 1) := by decide +kernel
theorem dX5_refresh_48 : decode cX5_refresh 48 = .ok (.iload_n 2, 1) := by decide +kernel
theorem dX5_refresh_49 : decode cX5_refresh 49 = .ok (.aload_n 0, 1) := by decide +kernel
theorem dX5_refresh_50 : decode cX5_refresh 50 = .ok (.getfield 25, 3) := by decide +kernel
theorem dX5_refresh_53 : decode cX5_refresh 53 = .ok (.invokevirtual 113, 3) := by decide +kernel
theorem dX5_refresh_56 : decode cX5_refresh 56 = .ok (.isub, 1) := by decide +kernel
theorem dX5_refresh_57 : decode cX5_refresh 57 = .ok (.iconst 1, 1) := by decide +kernel
theorem dX5_refresh_58 : decode cX5_refresh 58 = .ok (.iadd, 1) := by decide +kernel
theorem dX5_refresh_59 : decode cX5_refresh 59 = .ok (.invokestatic 116, 3) := by decide +kernel
theorem dX5_refresh_62 : decode cX5_refresh 62 = .ok (.istore_n 3, 1) := by decide +kernel
theorem dX5_refresh_63 : decode cX5_refresh 63 = .ok (.iload_n 3, 1) := by decide +kernel
theorem dX5_refresh_64 : decode cX5_refresh 64 = .ok (.aload_n 0, 1) := by decide +kernel
theorem dX5_refresh_65 : decode cX5_refresh 65 = .ok (.getfield 25, 3) := by decide +kernel
theorem dX5_refresh_68 : decode cX5_refresh 68 = .ok (.invokevirtual 113, 3) := by decide +kernel
theorem dX5_refresh_71 : decode cX5_refresh 71 = .ok (.if_icmp .ge 69, 3) := by decide +kernel
theorem dX5_refresh_74 : decode cX5_refresh 74 = .ok (.iload_n 3, 1) := by decide +kernel
theorem dX5_refresh_75 : decode cX5_refresh 75 = .ok (.iload_n 2, 1) := by decide +kernel
theorem dX5_refresh_76 : decode cX5_refresh 76 = .ok (.if_icmp .gt 64, 3) := by decide +kernel
theorem dX5_refresh_79 : decode cX5_refresh 79 = .ok (.aload_n 0, 1) := by decide +kernel
theorem dX5_refresh_80 : decode cX5_refresh 80 = .ok (.getfield 9, 3) := by decide +kernel
theorem dX5_refresh_83 : decode cX5_refresh 83 = .ok (.iload_n 3, 1) := by decide +kernel
theorem dX5_refresh_84 : decode cX5_refresh 84 = .ok (.bipush 12, 2) := by decide +kernel
theorem dX5_refresh_86 : decode cX5_refresh 86 = .ok (.imul, 1) := by decide +kernel
theorem dX5_refresh_87 : decode cX5_refresh 87 = .ok (.iload_n 2, 1) := by decide +kernel
theorem dX5_refresh_88 : decode cX5_refresh 88 = .ok (.iadd, 1) := by decide +kernel
theorem dX5_refresh_89 : decode cX5_refresh 89 = .ok (.iload_n 3, 1) := by decide +kernel
theorem dX5_refresh_90 : decode cX5_refresh 90 = .ok (.isub, 1) := by decide +kernel
theorem dX5_refresh_91 : decode cX5_refresh 91 = .ok (.aload_n 0, 1) := by decide +kernel
theorem dX5_refresh_92 : decode cX5_refresh 92 = .ok (.iload_n 3, 1) := by decide +kernel
theorem dX5_refresh_93 : decode cX5_refresh 93 = .ok (.iload_n 2, 1) := by decide +kernel
theorem dX5_refresh_94 : decode cX5_refresh 94 = .ok (.iload_n 3, 1) := by decide +kernel
theorem dX5_refresh_95 : decode cX5_refresh 95 = .ok (.isub, 1) := by decide +kernel
theorem dX5_refresh_96 : decode cX5_refresh 96 = .ok (.invokevirtual 121, 3) := by decide +kernel
theorem dX5_refresh_99 : decode cX5_refresh 99 = .ok (.aload_n 0, 1) := by decide +kernel
theorem dX5_refresh_100 : decode cX5_refresh 100 = .ok (.iload_n 2, 1) := by decide +kernel
theorem dX5_refresh_101 : decode cX5_refresh 101 = .ok (.iload_n 3, 1) := by decide +kernel
theorem dX5_refresh_102 : decode cX5_refresh 102 = .ok (.isub, 1) := by decide +kernel
theorem dX5_refresh_103 : decode cX5_refresh 103 = .ok (.iload_n 3, 1) := by decide +kernel
theorem dX5_refresh_104 : decode cX5_refresh 104 = .ok (.invokevirtual 121, 3) := by decide +kernel
theorem dX5_refresh_107 : decode cX5_refresh 107 = .ok (.iand, 1) := by decide +kernel
theorem dX5_refresh_108 : decode cX5_refresh 108 = .ok (.invokestatic 87, 3) := by decide +kernel
theorem dX5_refresh_111 : decode cX5_refresh 111 = .ok (.aload_n 0, 1) := by decide +kernel
theorem dX5_refresh_112 : decode cX5_refresh 112 = .ok (.getfield 15, 3) := by decide +kernel
theorem dX5_refresh_115 : decode cX5_refresh 115 = .ok (.iload_n 3, 1) := by decide +kernel
theorem dX5_refresh_116 : decode cX5_refresh 116 = .ok (.bipush 12, 2) := by decide +kernel
theorem dX5_refresh_118 : decode cX5_refresh 118 = .ok (.imul, 1) := by decide +kernel
theorem dX5_refresh_119 : decode cX5_refresh 119 = .ok (.iload_n 2, 1) := by decide +kernel
theorem dX5_refresh_120 : decode cX5_refresh 120 = .ok (.iadd, 1) := by decide +kernel
theorem dX5_refresh_121 : decode cX5_refresh 121 = .ok (.iload_n 3, 1) := by decide +kernel
theorem dX5_refresh_122 : decode cX5_refresh 122 = .ok (.isub, 1) := by decide +kernel
theorem dX5_refresh_123 : decode cX5_refresh 123 = .ok (.aload_n 0, 1) := by decide +kernel
theorem dX5_refresh_124 : decode cX5_refresh 124 = .ok (.iload_n 3, 1) := by decide +kernel
theorem dX5_refresh_125 : decode cX5_refresh 125 = .ok (.iload_n 2, 1) := by decide +kernel
theorem dX5_refresh_126 : decode cX5_refresh 126 = .ok (.iload_n 3, 1) := by decide +kernel
theorem dX5_refresh_127 : decode cX5_refresh 127 = .ok (.isub, 1) := by decide +kernel
theorem dX5_refresh_128 : decode cX5_refresh 128 = .ok (.invokevirtual 124, 3) := by decide +kernel
theorem dX5_refresh_131 : decode cX5_refresh 131 = .ok (.invokestatic 87, 3) := by decide +kernel
theorem dX5_refresh_134 : decode cX5_refresh 134 = .ok (.iinc 3 1, 3) := by decide +kernel
theorem dX5_refresh_137 : decode cX5_refresh 137 = .ok (.goto (-74), 3) := by decide +kernel
theorem dX5_refresh_140 : decode cX5_refresh 140 = .ok (.iinc 2 1, 3) := by decide +kernel
theorem dX5_refresh_143 : decode cX5_refresh 143 = .ok (.goto (-111), 3) := by decide +kernel
theorem dX5_refresh_146 : decode cX5_refresh 146 = .ok (.return_, 1) := by decide +kernel
theorem dX5_partly_0 : decode cX5_partly 0 = .ok (.aload_n 0, 1) := by decide +kernel
theorem dX5_partly_1 : decode cX5_partly 1 = .ok (.invokevirtual 75, 3) := by decide +kernel
theorem dX5_partly_4 : decode cX5_partly 4 = .ok (.istore_n 3, 1) := by decide +kernel
theorem dX5_partly_5 : decode cX5_partly 5 = .ok (.iconst 0, 1) := by decide +kernel
theorem dX5_partly_6 : decode cX5_partly 6 = .ok (.istore 4, 2) := by decide +kernel
theorem dX5_partly_8 : decode cX5_partly 8 = .ok (.iload 4, 2) := by decide +kernel
theorem dX5_partly_10 : decode cX5_partly 10 = .ok (.aload_n 0, 1) := by decide +kernel
theorem dX5_partly_11 : decode cX5_partly 11 = .ok (.getfield 25, 3) := by decide +kernel
theorem dX5_partly_14 : decode cX5_partly 14 = .ok (.iload_n 1, 1) := by decide +kernel
theorem dX5_partly_15 : decode cX5_partly 15 = .ok (.invokevirtual 79, 3) := by decide +kernel
theorem dX5_partly_18 : decode cX5_partly 18 = .ok (.if_icmp .ge 52, 3) := by decide +kernel
theorem dX5_partly_21 : decode cX5_partly 21 = .ok (.aload_n 0, 1) := by decide +kernel
theorem dX5_partly_22 : decode cX5_partly 22 = .ok (.getfield 15, 3) := by decide +kernel
theorem dX5_partly_25 : decode cX5_partly 25 = .ok (.aload_n 0, 1) := by decide +kernel
theorem dX5_partly_26 : decode cX5_partly 26 = .ok (.getfield 25, 3) := by decide +kernel
theorem dX5_partly_29 : decode cX5_partly 29 = .ok (.iload_n 1, 1) := by decide +kernel
theorem dX5_partly_30 : decode cX5_partly 30 = .ok (.iload 4, 2) := by decide +kernel
theorem dX5_partly_32 : decode cX5_partly 32 = .ok (.invokevirtual 84, 3) := by decide +kernel
theorem dX5_partly_35 : decode cX5_partly 35 = .ok (.bipush 12, 2) := by decide +kernel
theorem dX5_partly_37 : decode cX5_partly 37 = .ok (.imul, 1) := by decide +kernel
theorem dX5_partly_38 : decode cX5_partly 38 = .ok (.iload_n 2, 1) := by decide +kernel
theorem dX5_partly_39 : decode cX5_partly 39 = .ok (.iadd, 1) := by decide +kernel
theorem dX5_partly_40 : decode cX5_partly 40 = .ok (.invokestatic 36, 3) := by decide +kernel
theorem dX5_partly_43 : decode cX5_partly 43 = .ok (.istore 5, 2) := by decide +kernel
theorem dX5_partly_45 : decode cX5_partly 45 = .ok (.iload_n 3, 1) := by decide +kernel
theorem dX5_partly_46 : decode cX5_partly 46 = .ok (.aload_n 0, 1) := by decide +kernel
theorem dX5_partly_47 : decode cX5_partly 47 = .ok (.aload_n 0, 1) := by decide +kernel
theorem dX5_partly_48 : decode cX5_partly 48 = .ok (.getfield 25, 3) := by decide +kernel
theorem dX5_partly_51 : decode cX5_partly 51 = .ok (.iload_n 1, 1) := by decide +kernel
theorem dX5_partly_52 : decode cX5_partly 52 = .ok (.iload 4, 2) := by decide +kernel
theorem dX5_partly_54 : decode cX5_partly 54 = .ok (.invokevirtual 91, 3) := by decide +kernel
theorem dX5_partly_57 : decode cX5_partly 57 = .ok (.iload 5, 2) := by decide +kernel
theorem dX5_partly_59 : decode cX5_partly 59 = .ok (.invokevirtual 94, 3) := by decide +kernel
theorem dX5_partly_62 : decode cX5_partly 62 = .ok (.iand, 1) := by decide +kernel
theorem dX5_partly_63 : decode cX5_partly 63 = .ok (.istore_n 3, 1) := by decide +kernel
theorem dX5_partly_64 : decode cX5_partly 64 = .ok (.iinc 4 1, 3) := by decide +kernel
theorem dX5_partly_67 : decode cX5_partly 67 = .ok (.goto (-59), 3) := by decide +kernel
theorem dX5_partly_70 : decode cX5_partly 70 = .ok (.iload_n 3, 1) := by decide +kernel
theorem dX5_partly_71 : decode cX5_partly 71 = .ok (.ireturn, 1) := by decide +kernel
theorem dX5_contained_0 : decode cX5_contained 0 = .ok (.iconst 0, 1) := by decide +kernel
theorem dX5_contained_1 : decode cX5_contained 1 = .ok (.istore_n 3, 1) := by decide +kernel
theorem dX5_contained_2 : decode cX5_contained 2 = .ok (.iconst 0, 1) := by decide +kernel
theorem dX5_contained_3 : decode cX5_contained 3 = .ok (.istore 4, 2) := by decide +kernel
theorem dX5_contained_5 : decode cX5_contained 5 = .ok (.iload 4, 2) := by decide +kernel
theorem dX5_contained_7 : decode cX5_contained 7 = .ok (.aload_n 0, 1) := by decide +kernel
theorem dX5_contained_8 : decode cX5_contained 8 = .ok (.getfield 25, 3) := by decide +kernel
theorem dX5_contained_11 : decode cX5_contained 11 = .ok (.iload_n 2, 1) := by decide +kernel
theorem dX5_contained_12 : decode cX5_contained 12 = .ok (.invokevirtual 79, 3) := by decide +kernel
theorem dX5_contained_15 : decode cX5_contained 15 = .ok (.if_icmp .ge 52, 3) := by decide +kernel
theorem dX5_contained_18 : decode cX5_contained 18 = .ok (.aload_n 0, 1) := by decide +kernel
theorem dX5_contained_19 : decode cX5_contained 19 = .ok (.getfield 9, 3) := by decide +kernel
theorem dX5_contained_22 : decode cX5_contained 22 = .ok (.iload_n 1, 1) := by decide +kernel
theorem dX5_contained_23 : decode cX5_contained 23 = .ok (.bipush 12, 2) := by decide +kernel
theorem dX5_contained_25 : decode cX5_contained 25 = .ok (.imul, 1) := by decide +kernel
theorem dX5_contained_26 : decode cX5_contained 26 = .ok (.aload_n 0, 1) := by decide +kernel
theorem dX5_contained_27 : decode cX5_contained 27 = .ok (.getfield 25, 3) := by decide +kernel
theorem dX5_contained_30 : decode cX5_contained 30 = .ok (.iload_n 2, 1) := by decide +kernel
theorem dX5_contained_31 : decode cX5_contained 31 = .ok (.iload 4, 2) := by decide +kernel
theorem dX5_contained_33 : decode cX5_contained 33 = .ok (.invokevirtual 84, 3) := by decide +kernel
theorem dX5_contained_36 : decode cX5_contained 36 = .ok (.iadd, 1) := by decide +kernel
theorem dX5_contained_37 : decode cX5_contained 37 = .ok (.invokestatic 36, 3) := by decide +kernel
theorem dX5_contained_40 : decode cX5_contained 40 = .ok (.istore 5, 2) := by decide +kernel
theorem dX5_contained_42 : decode cX5_contained 42 = .ok (.iload_n 3, 1) := by decide +kernel
theorem dX5_contained_43 : decode cX5_contained 43 = .ok (.aload_n 0, 1) := by decide +kernel
theorem dX5_contained_44 : decode cX5_contained 44 = .ok (.aload_n 0, 1) := by decide +kernel
theorem dX5_contained_45 : decode cX5_contained 45 = .ok (.getfield 25, 3) := by decide +kernel
theorem dX5_contained_48 : decode cX5_contained 48 = .ok (.iload_n 2, 1) := by decide +kernel
theorem dX5_contained_49 : decode cX5_contained 49 = .ok (.iload 4, 2) := by decide +kernel
theorem dX5_contained_51 : decode cX5_contained 51 = .ok (.invokevirtual 91, 3) := by decide +kernel
theorem dX5_contained_54 : decode cX5_contained 54 = .ok (.iload 5, 2) := by decide +kernel
theorem dX5_contained_56 : decode cX5_contained 56 = .ok (.invokevirtual 97, 3) := by decide +kernel
theorem dX5_contained_59 : decode cX5_contained 59 = .ok (.ior, 1) := by decide +kernel
theorem dX5_contained_60 : decode cX5_contained 60 = .ok (.istore_n 3, 1) := by decide +kernel
theorem dX5_contained_61 : decode cX5_contained 61 = .ok (.iinc 4 1, 3) := by decide +kernel
theorem dX5_contained_64 : decode cX5_contained 64 = .ok (.goto (-59), 3) := by decide +kernel
theorem dX5_contained_67 : decode cX5_contained 67 = .ok (.aload_n 0, 1) := by decide +kernel
theorem dX5_contained_68 : decode cX5_contained 68 = .ok (.iload_n 3, 1) := by decide +kernel
theorem dX5_contained_69 : decode cX5_contained 69 = .ok (.invokevirtual 63, 3) := by decide +kernel
theorem dX5_contained_72 : decode cX5_contained 72 = .ok (.ireturn, 1) := by decide +kernel
theorem dX6_init_0 : decode cX6_init 0 = .ok (.aload_n 0, 1) := by decide +kernel
theorem dX6_init_1 : decode cX6_init 1 = .ok (.aload_n 1, 1) := by decide +kernel
theorem dX6_init_2 : decode cX6_init 2 = .ok (.aload_n 2, 1) := by decide +kernel
theorem dX6_init_3 : decode cX6_init 3 = .ok (.aload_n 3, 1) := by decide +kernel
theorem dX6_init_4 : decode cX6_init 4 = .ok (.invokespecial 1, 3) := by decide +kernel
theorem dX6_init_7 : decode cX6_init 7 = .ok (.return_, 1) := by decide +kernel
theorem dX6_whole_0 : decode cX6_whole 0 = .ok (.aload_n 0, 1) := by decide +kernel
theorem dX6_whole_1 : decode cX6_whole 1 = .ok (.getfield 7, 3) := by decide +kernel
theorem dX6_whole_4 : decode cX6_whole 4 = .ok (.invokevirtual 13, 3) := by decide +kernel
theorem dX6_whole_7 : decode cX6_whole 7 = .ok (.ireturn, 1) := by decide +kernel
theorem dX6_denied_0 : decode cX6_denied 0 = .ok (.aload_n 0, 1) := by decide +kernel
theorem dX6_denied_1 : decode cX6_denied 1 = .ok (.getfield 7, 3) := by decide +kernel
theorem dX6_denied_4 : decode cX6_denied 4 = .ok (.iload_n 1, 1) := by decide +kernel
theorem dX6_denied_5 : decode cX6_denied 5 = .ok (.invokevirtual 19, 3) := by decide +kernel
theorem dX6_denied_8 : decode cX6_denied 8 = .ok (.ireturn, 1) := by decide +kernel
theorem dX6_along_0 : decode cX6_along 0 = .ok (.aload_n 0, 1) := by decide +kernel
theorem dX6_along_1 : decode cX6_along 1 = .ok (.getfield 7, 3) := by decide +kernel
theorem dX6_along_4 : decode cX6_along 4 = .ok (.iload_n 1, 1) := by decide +kernel
theorem dX6_along_5 : decode cX6_along 5 = .ok (.invokevirtual 23, 3) := by decide +kernel
theorem dX6_along_8 : decode cX6_along 8 = .ok (.iload_n 2, 1) := by decide +kernel
theorem dX6_along_9 : decode cX6_along 9 = .ok (.iand, 1) := by decide +kernel
theorem dX6_along_10 : decode cX6_along 10 = .ok (.ireturn, 1) := by decide +kernel
theorem dX6_unless_0 : decode cX6_unless 0 = .ok (.iconst 0, 1) := by decide +kernel
theorem dX6_unless_1 : decode cX6_unless 1 = .ok (.istore_n 3, 1) := by decide +kernel
theorem dX6_unless_2 : decode cX6_unless 2 = .ok (.iconst 0, 1) := by decide +kernel
theorem dX6_unless_3 : decode cX6_unless 3 = .ok (.istore 4, 2) := by decide +kernel
theorem dX6_unless_5 : decode cX6_unless 5 = .ok (.iload 4, 2) := by decide +kernel
theorem dX6_unless_7 : decode cX6_unless 7 = .ok (.aload_n 0, 1) := by decide +kernel
theorem dX6_unless_8 : decode cX6_unless 8 = .ok (.getfield 7, 3) := by decide +kernel
theorem dX6_unless_11 : decode cX6_unless 11 = .ok (.invokevirtual 26, 3) := by decide +kernel
theorem dX6_unless_14 : decode cX6_unless 14 = .ok (.if_icmp .ge 41, 3) := by decide +kernel
theorem dX6_unless_17 : decode cX6_unless 17 = .ok (.aload_n 0, 1) := by decide +kernel
theorem dX6_unless_18 : decode cX6_unless 18 = .ok (.getfield 7, 3) := by decide +kernel
theorem dX6_unless_21 : decode cX6_unless 21 = .ok (.iload 4, 2) := by decide +kernel
theorem dX6_unless_23 : decode cX6_unless 23 = .ok (.invokevirtual 23, 3) := by decide +kernel
theorem dX6_unless_26 : decode cX6_unless 26 = .ok (.aload_n 0, 1) := by decide +kernel
theorem dX6_unless_27 : decode cX6_unless 27 = .ok (.getfield 7, 3) := by decide +kernel
theorem dX6_unless_30 : decode cX6_unless 30 = .ok (.iload_n 1, 1) := by decide +kernel
theorem dX6_unless_31 : decode cX6_unless 31 = .ok (.invokevirtual 23, 3) := by decide +kernel
theorem dX6_unless_34 : decode cX6_unless 34 = .ok (.iand, 1) := by decide +kernel
theorem dX6_unless_35 : decode cX6_unless 35 = .ok (.iload_n 2, 1) := by decide +kernel
theorem dX6_unless_36 : decode cX6_unless 36 = .ok (.invokestatic 29, 3) := by decide +kernel
theorem dX6_unless_39 : decode cX6_unless 39 = .ok (.ifCond .eq 10, 3) := by decide +kernel
theorem dX6_unless_42 : decode cX6_unless 42 = .ok (.iload_n 3, 1) := by decide +kernel
theorem dX6_unless_43 : decode cX6_unless 43 = .ok (.iconst 1, 1) := by decide +kernel
theorem dX6_unless_44 : decode cX6_unless 44 = .ok (.iload 4, 2) := by decide +kernel
theorem dX6_unless_46 : decode cX6_unless 46 = .ok (.ishl, 1) := by decide +kernel
theorem dX6_unless_47 : decode cX6_unless 47 = .ok (.ior, 1) := by decide +kernel
theorem dX6_unless_48 : decode cX6_unless 48 = .ok (.istore_n 3, 1) := by decide +kernel
theorem dX6_unless_49 : decode cX6_unless 49 = .ok (.iinc 4 1, 3) := by decide +kernel
theorem dX6_unless_52 : decode cX6_unless 52 = .ok (.goto (-47), 3) := by decide +kernel
theorem dX6_unless_55 : decode cX6_unless 55 = .ok (.iload_n 3, 1) := by decide +kernel
theorem dX6_unless_56 : decode cX6_unless 56 = .ok (.ireturn, 1) := by decide +kernel
theorem dX6_settled_0 : decode cX6_settled 0 = .ok (.iload_n 1, 1) := by decide +kernel
theorem dX6_settled_1 : decode cX6_settled 1 = .ok (.ireturn, 1) := by decide +kernel
theorem dX7_init_0 : decode cX7_init 0 = .ok (.aload_n 0, 1) := by decide +kernel
theorem dX7_init_1 : decode cX7_init 1 = .ok (.invokespecial 3, 3) := by decide +kernel
theorem dX7_init_4 : decode cX7_init 4 = .ok (.aload_n 0, 1) := by decide +kernel
theorem dX7_init_5 : decode cX7_init 5 = .ok (.bipush 12, 2) := by decide +kernel
theorem dX7_init_7 : decode cX7_init 7 = .ok (.newarray .int, 2) := by decide +kernel
theorem dX7_init_9 : decode cX7_init 9 = .ok (.putfield 9, 3) := by decide +kernel
theorem dX7_init_12 : decode cX7_init 12 = .ok (.aload_n 0, 1) := by decide +kernel
theorem dX7_init_13 : decode cX7_init 13 = .ok (.iconst 4, 1) := by decide +kernel
theorem dX7_init_14 : decode cX7_init 14 = .ok (.newarray .int, 2) := by decide +kernel
theorem dX7_init_16 : decode cX7_init 16 = .ok (.putfield 15, 3) := by decide +kernel
theorem dX7_init_19 : decode cX7_init 19 = .ok (.aload_n 0, 1) := by decide +kernel
theorem dX7_init_20 : decode cX7_init 20 = .ok (.aload_n 1, 1) := by decide +kernel
theorem dX7_init_21 : decode cX7_init 21 = .ok (.putfield 18, 3) := by decide +kernel
theorem dX7_init_24 : decode cX7_init 24 = .ok (.aload_n 0, 1) := by decide +kernel
theorem dX7_init_25 : decode cX7_init 25 = .ok (.aload_n 2, 1) := by decide +kernel
theorem dX7_init_26 : decode cX7_init 26 = .ok (.putfield 22, 3) := by decide +kernel
theorem dX7_init_29 : decode cX7_init 29 = .ok (.aload_n 0, 1) := by decide +kernel
theorem dX7_init_30 : decode cX7_init 30 = .ok (.aload_n 3, 1) := by decide +kernel
theorem dX7_init_31 : decode cX7_init 31 = .ok (.putfield 26, 3) := by decide +kernel
theorem dX7_init_34 : decode cX7_init 34 = .ok (.return_, 1) := by decide +kernel
theorem dX7_enter_0 : decode cX7_enter 0 = .ok (.iconst 0, 1) := by decide +kernel
theorem dX7_enter_1 : decode cX7_enter 1 = .ok (.istore_n 3, 1) := by decide +kernel
theorem dX7_enter_2 : decode cX7_enter 2 = .ok (.iload_n 3, 1) := by decide +kernel
theorem dX7_enter_3 : decode cX7_enter 3 = .ok (.aload_n 0, 1) := by decide +kernel
theorem dX7_enter_4 : decode cX7_enter 4 = .ok (.getfield 22, 3) := by decide +kernel
theorem dX7_enter_7 : decode cX7_enter 7 = .ok (.invokevirtual 30, 3) := by decide +kernel
theorem dX7_enter_10 : decode cX7_enter 10 = .ok (.if_icmp .ge 106, 3) := by decide +kernel
theorem dX7_enter_13 : decode cX7_enter 13 = .ok (.iconst 0, 1) := by decide +kernel
theorem dX7_enter_14 : decode cX7_enter 14 = .ok (.istore 4, 2) := by decide +kernel
theorem dX7_enter_16 : decode cX7_enter 16 = .ok (.iconst 0, 1) := by decide +kernel
theorem dX7_enter_17 : decode cX7_enter 17 = .ok (.istore 5, 2) := by decide +kernel
theorem dX7_enter_19 : decode cX7_enter 19 = .ok (.iload 5, 2) := by decide +kernel
theorem dX7_enter_21 : decode cX7_enter 21 = .ok (.aload_n 0, 1) := by decide +kernel
theorem dX7_enter_22 : decode cX7_enter 22 = .ok (.getfield 22, 3) := by decide +kernel
theorem dX7_enter_25 : decode cX7_enter 25 = .ok (.iload_n 3, 1) := by decide +kernel
theorem dX7_enter_26 : decode cX7_enter 26 = .ok (.invokevirtual 36, 3) := by decide +kernel
theorem dX7_enter_29 : decode cX7_enter 29 = .ok (.if_icmp .ge 71, 3) := by decide +kernel
theorem dX7_enter_32 : decode cX7_enter 32 = .ok (.aload_n 0, 1) := by decide +kernel
theorem dX7_enter_33 : decode cX7_enter 33 = .ok (.getfield 22, 3) := by decide +kernel
theorem dX7_enter_36 : decode cX7_enter 36 = .ok (.iload_n 3, 1) := by decide +kernel
theorem dX7_enter_37 : decode cX7_enter 37 = .ok (.iload 5, 2) := by decide +kernel
theorem dX7_enter_39 : decode cX7_enter 39 = .ok (.invokevirtual 40, 3) := by decide +kernel
theorem dX7_enter_42 : decode cX7_enter 42 = .ok (.istore 6, 2) := by decide +kernel
theorem dX7_enter_44 : decode cX7_enter 44 = .ok (.aload_n 0, 1) := by decide +kernel
theorem dX7_enter_45 : decode cX7_enter 45 = .ok (.getfield 18, 3) := by decide +kernel
theorem dX7_enter_48 : decode cX7_enter 48 = .ok (.iload_n 1, 1) := by decide +kernel
theorem dX7_enter_49 : decode cX7_enter 49 = .ok (.iload_n 2, 1) := by decide +kernel
theorem dX7_enter_50 : decode cX7_enter 50 = .ok (.ifCond .eq 15, 3) := by decide +kernel
theorem dX7_enter_53 : decode cX7_enter 53 = .ok (.aload_n 0, 1) := by decide +kernel
theorem dX7_enter_54 : decode cX7_enter 54 = .ok (.getfield 18, 3) := by decide +kernel
theorem dX7_enter_57 : decode cX7_enter 57 = .ok (.iload 6, 2) := by decide +kernel
theorem dX7_enter_59 : decode cX7_enter 59 = .ok (.invokevirtual 44, 3) := by decide +kernel
theorem dX7_enter_62 : decode cX7_enter 62 = .ok (.goto 5, 3) := by decide +kernel
theorem dX7_enter_65 : decode cX7_enter 65 = .ok (.iload 6, 2) := by decide +kernel
theorem dX7_enter_67 : decode cX7_enter 67 = .ok (.invokevirtual 49, 3) := by decide +kernel
theorem dX7_enter_70 : decode cX7_enter 70 = .ok (.ifCond .eq 24, 3) := by decide +kernel
theorem dX7_enter_73 : decode cX7_enter 73 = .ok (.iload 4, 2) := by decide +kernel
theorem dX7_enter_75 : decode cX7_enter 75 = .ok (.iconst 1, 1) := by decide +kernel
theorem dX7_enter_76 : decode cX7_enter 76 = .ok (.aload_n 0, 1) := by decide +kernel
theorem dX7_enter_77 : decode cX7_enter 77 = .ok (.aload_n 0, 1) := by decide +kernel
theorem dX7_enter_78 : decode cX7_enter 78 = .ok (.getfield 22, 3) := by decide +kernel
theorem dX7_enter_81 : decode cX7_enter 81 = .ok (.iload_n 3, 1) := by decide +kernel
theorem dX7_enter_82 : decode cX7_enter 82 = .ok (.iload 5, 2) := by decide +kernel
theorem dX7_enter_84 : decode cX7_enter 84 = .ok (.invokevirtual 53, 3) := by decide +kernel
theorem dX7_enter_87 : decode cX7_enter 87 = .ok (.invokevirtual 56, 3) := by decide +kernel
theorem dX7_enter_90 : decode cX7_enter 90 = .ok (.ishl, 1) := by decide +kernel
theorem dX7_enter_91 : decode cX7_enter 91 = .ok (.ior, 1) := by decide +kernel
theorem dX7_enter_92 : decode cX7_enter 92 = .ok (.istore 4, 2) := by decide +kernel
theorem dX7_enter_94 : decode cX7_enter 94 = .ok (.iinc 5 1, 3) := by decide +kernel
theorem dX7_enter_97 : decode cX7_enter 97 = .ok (.goto (-78), 3) := by decide +kernel
theorem dX7_enter_100 : decode cX7_enter 100 = .ok (.aload_n 0, 1) := by decide +kernel
theorem dX7_enter_101 : decode cX7_enter 101 = .ok (.getfield 9, 3) := by decide +kernel
theorem dX7_enter_104 : decode cX7_enter 104 = .ok (.iload_n 3, 1) := by decide +kernel
theorem dX7_enter_105 : decode cX7_enter 105 = .ok (.iload 4, 2) := by decide +kernel
theorem dX7_enter_107 : decode cX7_enter 107 = .ok (.invokestatic 59, 3) := by decide +kernel
theorem dX7_enter_110 : decode cX7_enter 110 = .ok (.iinc 3 1, 3) := by decide +kernel
theorem dX7_enter_113 : decode cX7_enter 113 = .ok (.goto (-111), 3) := by decide +kernel
theorem dX7_enter_116 : decode cX7_enter 116 = .ok (.return_, 1) := by decide +kernel
theorem dX7_codeOf_0 : decode cX7_codeOf 0 = .ok (.aload_n 0, 1) := by decide +kernel
theorem dX7_codeOf_1 : decode cX7_codeOf 1 = .ok (.getfield 9, 3) := by decide +kernel
theorem dX7_codeOf_4 : decode cX7_codeOf 4 = .ok (.iload_n 1, 1) := by decide +kernel
theorem dX7_codeOf_5 : decode cX7_codeOf 5 = .ok (.invokestatic 63, 3) := by decide +kernel
theorem dX7_codeOf_8 : decode cX7_codeOf 8 = .ok (.ireturn, 1) := by decide +kernel
theorem dX7_agrees_0 : decode cX7_agrees 0 = .ok (.aload_n 0, 1) := by decide +kernel
theorem dX7_agrees_1 : decode cX7_agrees 1 = .ok (.iload_n 1, 1) := by decide +kernel
theorem dX7_agrees_2 : decode cX7_agrees 2 = .ok (.iconst 1, 1) := by decide +kernel
theorem dX7_agrees_3 : decode cX7_agrees 3 = .ok (.invokevirtual 67, 3) := by decide +kernel
theorem dX7_agrees_6 : decode cX7_agrees 6 = .ok (.ireturn, 1) := by decide +kernel
theorem dX7_worldsOf_0 : decode cX7_worldsOf 0 = .ok (.aload_n 0, 1) := by decide +kernel
theorem dX7_worldsOf_1 : decode cX7_worldsOf 1 = .ok (.getfield 18, 3) := by decide +kernel
theorem dX7_worldsOf_4 : decode cX7_worldsOf 4 = .ok (.invokevirtual 70, 3) := by decide +kernel
theorem dX7_worldsOf_7 : decode cX7_worldsOf 7 = .ok (.istore_n 2, 1) := by decide +kernel
theorem dX7_worldsOf_8 : decode cX7_worldsOf 8 = .ok (.iconst 0, 1) := by decide +kernel
theorem dX7_worldsOf_9 : decode cX7_worldsOf 9 = .ok (.istore_n 3, 1) := by decide +kernel
theorem dX7_worldsOf_10 : decode cX7_worldsOf 10 = .ok (.iconst 0, 1) := by decide +kernel
theorem dX7_worldsOf_11 : decode cX7_worldsOf 11 = .ok (.istore 4, 2) := by decide +kernel
theorem dX7_worldsOf_13 : decode cX7_worldsOf 13 = .ok (.iload 4, 2) := by decide +kernel
theorem dX7_worldsOf_15 : decode cX7_worldsOf 15 = .ok (.aload_n 0, 1) := by decide +kernel
theorem dX7_worldsOf_16 : decode cX7_worldsOf 16 = .ok (.getfield 18, 3) := by decide +kernel
theorem dX7_worldsOf_19 : decode cX7_worldsOf 19 = .ok (.invokevirtual 73, 3) := by decide +kernel
theorem dX7_worldsOf_22 : decode cX7_worldsOf 22 = .ok (.if_icmp .ge 44, 3) := by decide +kernel
theorem dX7_worldsOf_25 : decode cX7_worldsOf 25 = .ok (.iload_n 2, 1) := by decide +kernel
theorem dX7_worldsOf_26 : decode cX7_worldsOf 26 = .ok (.iload 4, 2) := by decide +kernel
theorem dX7_worldsOf_28 : decode cX7_worldsOf 28 = .ok (.invokestatic 74, 3) := by decide +kernel
theorem dX7_worldsOf_31 : decode cX7_worldsOf 31 = .ok (.ifCond .eq 29, 3) := by decide +kernel
theorem dX7_worldsOf_34 : decode cX7_worldsOf 34 = .ok (.aload_n 0, 1) := by decide +kernel
theorem dX7_worldsOf_35 : decode cX7_worldsOf 35 = .ok (.iload 4, 2) := by decide +kernel
theorem dX7_worldsOf_37 : decode cX7_worldsOf 37 = .ok (.iconst 0, 1) := by decide +kernel
theorem dX7_worldsOf_38 : decode cX7_worldsOf 38 = .ok (.invokevirtual 77, 3) := by decide +kernel
theorem dX7_worldsOf_41 : decode cX7_worldsOf 41 = .ok (.iload_n 3, 1) := by decide +kernel
theorem dX7_worldsOf_42 : decode cX7_worldsOf 42 = .ok (.aload_n 0, 1) := by decide +kernel
theorem dX7_worldsOf_43 : decode cX7_worldsOf 43 = .ok (.iload_n 1, 1) := by decide +kernel
theorem dX7_worldsOf_44 : decode cX7_worldsOf 44 = .ok (.invokevirtual 81, 3) := by decide +kernel
theorem dX7_worldsOf_47 : decode cX7_worldsOf 47 = .ok (.ifCond .eq 10, 3) := by decide +kernel
theorem dX7_worldsOf_50 : decode cX7_worldsOf 50 = .ok (.iconst 1, 1) := by decide +kernel
theorem dX7_worldsOf_51 : decode cX7_worldsOf 51 = .ok (.iload 4, 2) := by decide +kernel
theorem dX7_worldsOf_53 : decode cX7_worldsOf 53 = .ok (.ishl, 1) := by decide +kernel
theorem dX7_worldsOf_54 : decode cX7_worldsOf 54 = .ok (.goto 4, 3) := by decide +kernel
theorem dX7_worldsOf_57 : decode cX7_worldsOf 57 = .ok (.iconst 0, 1) := by decide +kernel
theorem dX7_worldsOf_58 : decode cX7_worldsOf 58 = .ok (.ior, 1) := by decide +kernel
theorem dX7_worldsOf_59 : decode cX7_worldsOf 59 = .ok (.istore_n 3, 1) := by decide +kernel
theorem dX7_worldsOf_60 : decode cX7_worldsOf 60 = .ok (.iinc 4 1, 3) := by decide +kernel
theorem dX7_worldsOf_63 : decode cX7_worldsOf 63 = .ok (.goto (-50), 3) := by decide +kernel
theorem dX7_worldsOf_66 : decode cX7_worldsOf 66 = .ok (.iload_n 3, 1) := by decide +kernel
theorem dX7_worldsOf_67 : decode cX7_worldsOf 67 = .ok (.ireturn, 1) := by decide +kernel
theorem dX7_isSo_0 : decode cX7_isSo 0 = .ok (.iload_n 2, 1) := by decide +kernel
theorem dX7_isSo_1 : decode cX7_isSo 1 = .ok (.iconst 5, 1) := by decide +kernel
theorem dX7_isSo_2 : decode cX7_isSo 2 = .ok (.if_icmp .gt 14, 3) := by decide +kernel
theorem dX7_isSo_5 : decode cX7_isSo 5 = .ok (.aload_n 0, 1) := by decide +kernel
theorem dX7_isSo_6 : decode cX7_isSo 6 = .ok (.getfield 26, 3) := by decide +kernel
theorem dX7_isSo_9 : decode cX7_isSo 9 = .ok (.iload_n 1, 1) := by decide +kernel
theorem dX7_isSo_10 : decode cX7_isSo 10 = .ok (.invokevirtual 85, 3) := by decide +kernel
theorem dX7_isSo_13 : decode cX7_isSo 13 = .ok (.ifCond .ne 5, 3) := by decide +kernel
theorem dX7_isSo_16 : decode cX7_isSo 16 = .ok (.iconst 0, 1) := by decide +kernel
theorem dX7_isSo_17 : decode cX7_isSo 17 = .ok (.ireturn, 1) := by decide +kernel
theorem dX7_isSo_18 : decode cX7_isSo 18 = .ok (.aload_n 0, 1) := by decide +kernel
theorem dX7_isSo_19 : decode cX7_isSo 19 = .ok (.getfield 26, 3) := by decide +kernel
theorem dX7_isSo_22 : decode cX7_isSo 22 = .ok (.iload_n 1, 1) := by decide +kernel
theorem dX7_isSo_23 : decode cX7_isSo 23 = .ok (.invokevirtual 90, 3) := by decide +kernel
theorem dX7_isSo_26 : decode cX7_isSo 26 = .ok (.istore_n 3, 1) := by decide +kernel
theorem dX7_isSo_27 : decode cX7_isSo 27 = .ok (.aload_n 0, 1) := by decide +kernel
theorem dX7_isSo_28 : decode cX7_isSo 28 = .ok (.getfield 26, 3) := by decide +kernel
theorem dX7_isSo_31 : decode cX7_isSo 31 = .ok (.iload_n 1, 1) := by decide +kernel
theorem dX7_isSo_32 : decode cX7_isSo 32 = .ok (.invokevirtual 93, 3) := by decide +kernel
theorem dX7_isSo_35 : decode cX7_isSo 35 = .ok (.istore 4, 2) := by decide +kernel
theorem dX7_isSo_37 : decode cX7_isSo 37 = .ok (.aload_n 0, 1) := by decide +kernel
theorem dX7_isSo_38 : decode cX7_isSo 38 = .ok (.getfield 26, 3) := by decide +kernel
theorem dX7_isSo_41 : decode cX7_isSo 41 = .ok (.iload_n 1, 1) := by decide +kernel
theorem dX7_isSo_42 : decode cX7_isSo 42 = .ok (.invokevirtual 96, 3) := by decide +kernel
theorem dX7_isSo_45 : decode cX7_isSo 45 = .ok (.lookupswitch 161 #[(61, 66), (97, 86), (101, 51), (110, 144), (111, 115)], 51) := by decide +kernel
theorem dX7_isSo_96 : decode cX7_isSo 96 = .ok (.aload_n 0, 1) := by decide +kernel
theorem dX7_isSo_97 : decode cX7_isSo 97 = .ok (.iload 4, 2) := by decide +kernel
theorem dX7_isSo_99 : decode cX7_isSo 99 = .ok (.invokevirtual 99, 3) := by decide +kernel
theorem dX7_isSo_102 : decode cX7_isSo 102 = .ok (.aload_n 0, 1) := by decide +kernel
theorem dX7_isSo_103 : decode cX7_isSo 103 = .ok (.iload_n 3, 1) := by decide +kernel
theorem dX7_isSo_104 : decode cX7_isSo 104 = .ok (.invokevirtual 99, 3) := by decide +kernel
theorem dX7_isSo_107 : decode cX7_isSo 107 = .ok (.invokestatic 74, 3) := by decide +kernel
theorem dX7_isSo_110 : decode cX7_isSo 110 = .ok (.ireturn, 1) := by decide +kernel
theorem dX7_isSo_111 : decode cX7_isSo 111 = .ok (.aload_n 0, 1) := by decide +kernel
theorem dX7_isSo_112 : decode cX7_isSo 112 = .ok (.iload_n 3, 1) := by decide +kernel
theorem dX7_isSo_113 : decode cX7_isSo 113 = .ok (.invokevirtual 99, 3) := by decide +kernel
theorem dX7_isSo_116 : decode cX7_isSo 116 = .ok (.aload_n 0, 1) := by decide +kernel
theorem dX7_isSo_117 : decode cX7_isSo 117 = .ok (.iload 4, 2) := by decide +kernel
theorem dX7_isSo_119 : decode cX7_isSo 119 = .ok (.invokevirtual 99, 3) := by decide +kernel
theorem dX7_isSo_122 : decode cX7_isSo 122 = .ok (.if_icmp .ne 7, 3) := by decide +kernel
theorem dX7_isSo_125 : decode cX7_isSo 125 = .ok (.iconst 1, 1) := by decide +kernel
theorem dX7_isSo_126 : decode cX7_isSo 126 = .ok (.goto 4, 3) := by decide +kernel
theorem dX7_isSo_129 : decode cX7_isSo 129 = .ok (.iconst 0, 1) := by decide +kernel
theorem dX7_isSo_130 : decode cX7_isSo 130 = .ok (.ireturn, 1) := by decide +kernel
theorem dX7_isSo_131 : decode cX7_isSo 131 = .ok (.aload_n 0, 1) := by decide +kernel
theorem dX7_isSo_132 : decode cX7_isSo 132 = .ok (.iload_n 3, 1) := by decide +kernel
theorem dX7_isSo_133 : decode cX7_isSo 133 = .ok (.iload_n 2, 1) := by decide +kernel
theorem dX7_isSo_134 : decode cX7_isSo 134 = .ok (.iconst 1, 1) := by decide +kernel
theorem dX7_isSo_135 : decode cX7_isSo 135 = .ok (.iadd, 1) := by decide +kernel
theorem dX7_isSo_136 : decode cX7_isSo 136 = .ok (.invokevirtual 67, 3) := by decide +kernel
theorem dX7_isSo_139 : decode cX7_isSo 139 = .ok (.ifCond .eq 19, 3) := by decide +kernel
theorem dX7_isSo_142 : decode cX7_isSo 142 = .ok (.aload_n 0, 1) := by decide +kernel
theorem dX7_isSo_143 : decode cX7_isSo 143 = .ok (.iload 4, 2) := by decide +kernel
theorem dX7_isSo_145 : decode cX7_isSo 145 = .ok (.iload_n 2, 1) := by decide +kernel
theorem dX7_isSo_146 : decode cX7_isSo 146 = .ok (.iconst 1, 1) := by decide +kernel
theorem dX7_isSo_147 : decode cX7_isSo 147 = .ok (.iadd, 1) := by decide +kernel
theorem dX7_isSo_148 : decode cX7_isSo 148 = .ok (.invokevirtual 67, 3) := by decide +kernel
theorem dX7_isSo_151 : decode cX7_isSo 151 = .ok (.ifCond .eq 7, 3) := by decide +kernel
theorem dX7_isSo_154 : decode cX7_isSo 154 = .ok (.iconst 1, 1) := by decide +kernel
theorem dX7_isSo_155 : decode cX7_isSo 155 = .ok (.goto 4, 3) := by decide +kernel
theorem dX7_isSo_158 : decode cX7_isSo 158 = .ok (.iconst 0, 1) := by decide +kernel
theorem dX7_isSo_159 : decode cX7_isSo 159 = .ok (.ireturn, 1) := by decide +kernel
theorem dX7_isSo_160 : decode cX7_isSo 160 = .ok (.aload_n 0, 1) := by decide +kernel
theorem dX7_isSo_161 : decode cX7_isSo 161 = .ok (.iload_n 3, 1) := by decide +kernel
theorem dX7_isSo_162 : decode cX7_isSo 162 = .ok (.iload_n 2, 1) := by decide +kernel
theorem dX7_isSo_163 : decode cX7_isSo 163 = .ok (.iconst 1, 1) := by decide +kernel
theorem dX7_isSo_164 : decode cX7_isSo 164 = .ok (.iadd, 1) := by decide +kernel
theorem dX7_isSo_165 : decode cX7_isSo 165 = .ok (.invokevirtual 67, 3) := by decide +kernel
theorem dX7_isSo_168 : decode cX7_isSo 168 = .ok (.ifCond .ne 15, 3) := by decide +kernel
theorem dX7_isSo_171 : decode cX7_isSo 171 = .ok (.aload_n 0, 1) := by decide +kernel
theorem dX7_isSo_172 : decode cX7_isSo 172 = .ok (.iload 4, 2) := by decide +kernel
theorem dX7_isSo_174 : decode cX7_isSo 174 = .ok (.iload_n 2, 1) := by decide +kernel
theorem dX7_isSo_175 : decode cX7_isSo 175 = .ok (.iconst 1, 1) := by decide +kernel
theorem dX7_isSo_176 : decode cX7_isSo 176 = .ok (.iadd, 1) := by decide +kernel
theorem dX7_isSo_177 : decode cX7_isSo 177 = .ok (.invokevirtual 67, 3) := by decide +kernel
theorem dX7_isSo_180 : decode cX7_isSo 180 = .ok (.ifCond .eq 7, 3) := by decide +kernel
theorem dX7_isSo_183 : decode cX7_isSo 183 = .ok (.iconst 1, 1) := by decide +kernel
theorem dX7_isSo_184 : decode cX7_isSo 184 = .ok (.goto 4, 3) := by decide +kernel
theorem dX7_isSo_187 : decode cX7_isSo 187 = .ok (.iconst 0, 1) := by decide +kernel
theorem dX7_isSo_188 : decode cX7_isSo 188 = .ok (.ireturn, 1) := by decide +kernel
theorem dX7_isSo_189 : decode cX7_isSo 189 = .ok (.aload_n 0, 1) := by decide +kernel
theorem dX7_isSo_190 : decode cX7_isSo 190 = .ok (.iload_n 3, 1) := by decide +kernel
theorem dX7_isSo_191 : decode cX7_isSo 191 = .ok (.iload_n 2, 1) := by decide +kernel
theorem dX7_isSo_192 : decode cX7_isSo 192 = .ok (.iconst 1, 1) := by decide +kernel
theorem dX7_isSo_193 : decode cX7_isSo 193 = .ok (.iadd, 1) := by decide +kernel
theorem dX7_isSo_194 : decode cX7_isSo 194 = .ok (.invokevirtual 67, 3) := by decide +kernel
theorem dX7_isSo_197 : decode cX7_isSo 197 = .ok (.ifCond .ne 7, 3) := by decide +kernel
theorem dX7_isSo_200 : decode cX7_isSo 200 = .ok (.iconst 1, 1) := by decide +kernel
theorem dX7_isSo_201 : decode cX7_isSo 201 = .ok (.goto 4, 3) := by decide +kernel
theorem dX7_isSo_204 : decode cX7_isSo 204 = .ok (.iconst 0, 1) := by decide +kernel
theorem dX7_isSo_205 : decode cX7_isSo 205 = .ok (.ireturn, 1) := by decide +kernel
theorem dX7_isSo_206 : decode cX7_isSo 206 = .ok (.aload_n 0, 1) := by decide +kernel
theorem dX7_isSo_207 : decode cX7_isSo 207 = .ok (.iload_n 1, 1) := by decide +kernel
theorem dX7_isSo_208 : decode cX7_isSo 208 = .ok (.iload_n 2, 1) := by decide +kernel
theorem dX7_isSo_209 : decode cX7_isSo 209 = .ok (.invokevirtual 102, 3) := by decide +kernel
theorem dX7_isSo_212 : decode cX7_isSo 212 = .ok (.ireturn, 1) := by decide +kernel
theorem dX7_isBoundSo_0 : decode cX7_isBoundSo 0 = .ok (.aload_n 0, 1) := by decide +kernel
theorem dX7_isBoundSo_1 : decode cX7_isBoundSo 1 = .ok (.aload_n 0, 1) := by decide +kernel
theorem dX7_isBoundSo_2 : decode cX7_isBoundSo 2 = .ok (.getfield 26, 3) := by decide +kernel
theorem dX7_isBoundSo_5 : decode cX7_isBoundSo 5 = .ok (.iload_n 1, 1) := by decide +kernel
theorem dX7_isBoundSo_6 : decode cX7_isBoundSo 6 = .ok (.invokevirtual 90, 3) := by decide +kernel
theorem dX7_isBoundSo_9 : decode cX7_isBoundSo 9 = .ok (.invokevirtual 99, 3) := by decide +kernel
theorem dX7_isBoundSo_12 : decode cX7_isBoundSo 12 = .ok (.istore_n 3, 1) := by decide +kernel
theorem dX7_isBoundSo_13 : decode cX7_isBoundSo 13 = .ok (.aload_n 0, 1) := by decide +kernel
theorem dX7_isBoundSo_14 : decode cX7_isBoundSo 14 = .ok (.getfield 26, 3) := by decide +kernel
theorem dX7_isBoundSo_17 : decode cX7_isBoundSo 17 = .ok (.iload_n 1, 1) := by decide +kernel
theorem dX7_isBoundSo_18 : decode cX7_isBoundSo 18 = .ok (.invokevirtual 105, 3) := by decide +kernel
theorem dX7_isBoundSo_21 : decode cX7_isBoundSo 21 = .ok (.istore 4, 2) := by decide +kernel
theorem dX7_isBoundSo_23 : decode cX7_isBoundSo 23 = .ok (.aload_n 0, 1) := by decide +kernel
theorem dX7_isBoundSo_24 : decode cX7_isBoundSo 24 = .ok (.getfield 15, 3) := by decide +kernel
theorem dX7_isBoundSo_27 : decode cX7_isBoundSo 27 = .ok (.iload 4, 2) := by decide +kernel
theorem dX7_isBoundSo_29 : decode cX7_isBoundSo 29 = .ok (.invokestatic 63, 3) := by decide +kernel
theorem dX7_isBoundSo_32 : decode cX7_isBoundSo 32 = .ok (.istore 5, 2) := by decide +kernel
theorem dX7_isBoundSo_34 : decode cX7_isBoundSo 34 = .ok (.aload_n 0, 1) := by decide +kernel
theorem dX7_isBoundSo_35 : decode cX7_isBoundSo 35 = .ok (.getfield 26, 3) := by decide +kernel
theorem dX7_isBoundSo_38 : decode cX7_isBoundSo 38 = .ok (.iload_n 1, 1) := by decide +kernel
theorem dX7_isBoundSo_39 : decode cX7_isBoundSo 39 = .ok (.invokevirtual 96, 3) := by decide +kernel
theorem dX7_isBoundSo_42 : decode cX7_isBoundSo 42 = .ok (.bipush 65, 2) := by decide +kernel
theorem dX7_isBoundSo_44 : decode cX7_isBoundSo 44 = .ok (.if_icmp .ne 7, 3) := by decide +kernel
theorem dX7_isBoundSo_47 : decode cX7_isBoundSo 47 = .ok (.iconst 1, 1) := by decide +kernel
theorem dX7_isBoundSo_48 : decode cX7_isBoundSo 48 = .ok (.goto 4, 3) := by decide +kernel
theorem dX7_isBoundSo_51 : decode cX7_isBoundSo 51 = .ok (.iconst 0, 1) := by decide +kernel
theorem dX7_isBoundSo_52 : decode cX7_isBoundSo 52 = .ok (.istore 6, 2) := by decide +kernel
theorem dX7_isBoundSo_54 : decode cX7_isBoundSo 54 = .ok (.iload 6, 2) := by decide +kernel
theorem dX7_isBoundSo_56 : decode cX7_isBoundSo 56 = .ok (.istore 7, 2) := by decide +kernel
theorem dX7_isBoundSo_58 : decode cX7_isBoundSo 58 = .ok (.iconst 0, 1) := by decide +kernel
theorem dX7_isBoundSo_59 : decode cX7_isBoundSo 59 = .ok (.istore 8, 2) := by decide +kernel
theorem dX7_isBoundSo_61 : decode cX7_isBoundSo 61 = .ok (.iload 8, 2) := by decide +kernel
theorem dX7_isBoundSo_63 : decode cX7_isBoundSo 63 = .ok (.bipush 16, 2) := by decide +kernel
theorem dX7_isBoundSo_65 : decode cX7_isBoundSo 65 = .ok (.if_icmp .ge 53, 3) := by decide +kernel
theorem dX7_isBoundSo_68 : decode cX7_isBoundSo 68 = .ok (.iload 7, 2) := by decide +kernel
theorem dX7_isBoundSo_70 : decode cX7_isBoundSo 70 = .ok (.iload 6, 2) := by decide +kernel
theorem dX7_isBoundSo_72 : decode cX7_isBoundSo 72 = .ok (.if_icmp .ne 46, 3) := by decide +kernel
theorem dX7_isBoundSo_75 : decode cX7_isBoundSo 75 = .ok (.iload_n 3, 1) := by decide +kernel
theorem dX7_isBoundSo_76 : decode cX7_isBoundSo 76 = .ok (.iload 8, 2) := by decide +kernel
theorem dX7_isBoundSo_78 : decode cX7_isBoundSo 78 = .ok (.invokestatic 74, 3) := by decide +kernel
theorem dX7_isBoundSo_81 : decode cX7_isBoundSo 81 = .ok (.ifCond .eq 31, 3) := by decide +kernel
theorem dX7_isBoundSo_84 : decode cX7_isBoundSo 84 = .ok (.aload_n 0, 1) := by decide +kernel
theorem dX7_isBoundSo_85 : decode cX7_isBoundSo 85 = .ok (.getfield 15, 3) := by decide +kernel
theorem dX7_isBoundSo_88 : decode cX7_isBoundSo 88 = .ok (.iload 4, 2) := by decide +kernel
theorem dX7_isBoundSo_90 : decode cX7_isBoundSo 90 = .ok (.iload 8, 2) := by decide +kernel
theorem dX7_isBoundSo_92 : decode cX7_isBoundSo 92 = .ok (.invokestatic 59, 3) := by decide +kernel
theorem dX7_isBoundSo_95 : decode cX7_isBoundSo 95 = .ok (.aload_n 0, 1) := by decide +kernel
theorem dX7_isBoundSo_96 : decode cX7_isBoundSo 96 = .ok (.aload_n 0, 1) := by decide +kernel
theorem dX7_isBoundSo_97 : decode cX7_isBoundSo 97 = .ok (.getfield 26, 3) := by decide +kernel
theorem dX7_isBoundSo_100 : decode cX7_isBoundSo 100 = .ok (.iload_n 1, 1) := by decide +kernel
theorem dX7_isBoundSo_101 : decode cX7_isBoundSo 101 = .ok (.invokevirtual 93, 3) := by decide +kernel
theorem dX7_isBoundSo_104 : decode cX7_isBoundSo 104 = .ok (.iload_n 2, 1) := by decide +kernel
theorem dX7_isBoundSo_105 : decode cX7_isBoundSo 105 = .ok (.iconst 1, 1) := by decide +kernel
theorem dX7_isBoundSo_106 : decode cX7_isBoundSo 106 = .ok (.iadd, 1) := by decide +kernel
theorem dX7_isBoundSo_107 : decode cX7_isBoundSo 107 = .ok (.invokevirtual 67, 3) := by decide +kernel
theorem dX7_isBoundSo_110 : decode cX7_isBoundSo 110 = .ok (.istore 7, 2) := by decide +kernel
theorem dX7_isBoundSo_112 : decode cX7_isBoundSo 112 = .ok (.iinc 8 1, 3) := by decide +kernel
theorem dX7_isBoundSo_115 : decode cX7_isBoundSo 115 = .ok (.goto (-54), 3) := by decide +kernel
theorem dX7_isBoundSo_118 : decode cX7_isBoundSo 118 = .ok (.aload_n 0, 1) := by decide +kernel
theorem dX7_isBoundSo_119 : decode cX7_isBoundSo 119 = .ok (.getfield 15, 3) := by decide +kernel
theorem dX7_isBoundSo_122 : decode cX7_isBoundSo 122 = .ok (.iload 4, 2) := by decide +kernel
theorem dX7_isBoundSo_124 : decode cX7_isBoundSo 124 = .ok (.iload 5, 2) := by decide +kernel
theorem dX7_isBoundSo_126 : decode cX7_isBoundSo 126 = .ok (.invokestatic 59, 3) := by decide +kernel
theorem dX7_isBoundSo_129 : decode cX7_isBoundSo 129 = .ok (.iload 7, 2) := by decide +kernel
theorem dX7_isBoundSo_131 : decode cX7_isBoundSo 131 = .ok (.ireturn, 1) := by decide +kernel
theorem dX7_meant_0 : decode cX7_meant 0 = .ok (.iload_n 1, 1) := by decide +kernel
theorem dX7_meant_1 : decode cX7_meant 1 = .ok (.invokestatic 108, 3) := by decide +kernel
theorem dX7_meant_4 : decode cX7_meant 4 = .ok (.ifCond .eq 17, 3) := by decide +kernel
theorem dX7_meant_7 : decode cX7_meant 7 = .ok (.aload_n 0, 1) := by decide +kernel
theorem dX7_meant_8 : decode cX7_meant 8 = .ok (.getfield 15, 3) := by decide +kernel
theorem dX7_meant_11 : decode cX7_meant 11 = .ok (.iload_n 1, 1) := by decide +kernel
theorem dX7_meant_12 : decode cX7_meant 12 = .ok (.bipush 100, 2) := by decide +kernel
theorem dX7_meant_14 : decode cX7_meant 14 = .ok (.isub, 1) := by decide +kernel
theorem dX7_meant_15 : decode cX7_meant 15 = .ok (.invokestatic 63, 3) := by decide +kernel
theorem dX7_meant_18 : decode cX7_meant 18 = .ok (.goto 11, 3) := by decide +kernel
theorem dX7_meant_21 : decode cX7_meant 21 = .ok (.aload_n 0, 1) := by decide +kernel
theorem dX7_meant_22 : decode cX7_meant 22 = .ok (.getfield 9, 3) := by decide +kernel
theorem dX7_meant_25 : decode cX7_meant 25 = .ok (.iload_n 1, 1) := by decide +kernel
theorem dX7_meant_26 : decode cX7_meant 26 = .ok (.invokestatic 63, 3) := by decide +kernel
theorem dX7_meant_29 : decode cX7_meant 29 = .ok (.ireturn, 1) := by decide +kernel
theorem dX8_init_0 : decode cX8_init 0 = .ok (.aload_n 0, 1) := by decide +kernel
theorem dX8_init_1 : decode cX8_init 1 = .ok (.invokespecial 1, 3) := by decide +kernel
theorem dX8_init_4 : decode cX8_init 4 = .ok (.new 7, 3) := by decide +kernel
theorem dX8_init_7 : decode cX8_init 7 = .ok (.dup, 1) := by decide +kernel
theorem dX8_init_8 : decode cX8_init 8 = .ok (.invokespecial 9, 3) := by decide +kernel
theorem dX8_init_11 : decode cX8_init 11 = .ok (.astore_n 1, 1) := by decide +kernel
theorem dX8_init_12 : decode cX8_init 12 = .ok (.new 10, 3) := by decide +kernel
theorem dX8_init_15 : decode cX8_init 15 = .ok (.dup, 1) := by decide +kernel
theorem dX8_init_16 : decode cX8_init 16 = .ok (.aload_n 1, 1) := by decide +kernel
theorem dX8_init_17 : decode cX8_init 17 = .ok (.invokespecial 12, 3) := by decide +kernel
theorem dX8_init_20 : decode cX8_init 20 = .ok (.astore_n 2, 1) := by decide +kernel
theorem dX8_init_21 : decode cX8_init 21 = .ok (.new 15, 3) := by decide +kernel
theorem dX8_init_24 : decode cX8_init 24 = .ok (.dup, 1) := by decide +kernel
theorem dX8_init_25 : decode cX8_init 25 = .ok (.invokespecial 17, 3) := by decide +kernel
theorem dX8_init_28 : decode cX8_init 28 = .ok (.astore_n 3, 1) := by decide +kernel
theorem dX8_init_29 : decode cX8_init 29 = .ok (.aload_n 0, 1) := by decide +kernel
theorem dX8_init_30 : decode cX8_init 30 = .ok (.aload_n 1, 1) := by decide +kernel
theorem dX8_init_31 : decode cX8_init 31 = .ok (.putfield 18, 3) := by decide +kernel
theorem dX8_init_34 : decode cX8_init 34 = .ok (.aload_n 0, 1) := by decide +kernel
theorem dX8_init_35 : decode cX8_init 35 = .ok (.aload_n 2, 1) := by decide +kernel
theorem dX8_init_36 : decode cX8_init 36 = .ok (.putfield 24, 3) := by decide +kernel
theorem dX8_init_39 : decode cX8_init 39 = .ok (.aload_n 0, 1) := by decide +kernel
theorem dX8_init_40 : decode cX8_init 40 = .ok (.aload_n 3, 1) := by decide +kernel
theorem dX8_init_41 : decode cX8_init 41 = .ok (.putfield 28, 3) := by decide +kernel
theorem dX8_init_44 : decode cX8_init 44 = .ok (.aload_n 0, 1) := by decide +kernel
theorem dX8_init_45 : decode cX8_init 45 = .ok (.new 32, 3) := by decide +kernel
theorem dX8_init_48 : decode cX8_init 48 = .ok (.dup, 1) := by decide +kernel
theorem dX8_init_49 : decode cX8_init 49 = .ok (.aload_n 1, 1) := by decide +kernel
theorem dX8_init_50 : decode cX8_init 50 = .ok (.aload_n 2, 1) := by decide +kernel
theorem dX8_init_51 : decode cX8_init 51 = .ok (.aload_n 3, 1) := by decide +kernel
theorem dX8_init_52 : decode cX8_init 52 = .ok (.invokespecial 34, 3) := by decide +kernel
theorem dX8_init_55 : decode cX8_init 55 = .ok (.putfield 37, 3) := by decide +kernel
theorem dX8_init_58 : decode cX8_init 58 = .ok (.aload_n 0, 1) := by decide +kernel
theorem dX8_init_59 : decode cX8_init 59 = .ok (.new 41, 3) := by decide +kernel
theorem dX8_init_62 : decode cX8_init 62 = .ok (.dup, 1) := by decide +kernel
theorem dX8_init_63 : decode cX8_init 63 = .ok (.aload_n 1, 1) := by decide +kernel
theorem dX8_init_64 : decode cX8_init 64 = .ok (.aload_n 2, 1) := by decide +kernel
theorem dX8_init_65 : decode cX8_init 65 = .ok (.aload_n 3, 1) := by decide +kernel
theorem dX8_init_66 : decode cX8_init 66 = .ok (.invokespecial 43, 3) := by decide +kernel
theorem dX8_init_69 : decode cX8_init 69 = .ok (.putfield 44, 3) := by decide +kernel
theorem dX8_init_72 : decode cX8_init 72 = .ok (.aload_n 0, 1) := by decide +kernel
theorem dX8_init_73 : decode cX8_init 73 = .ok (.new 47, 3) := by decide +kernel
theorem dX8_init_76 : decode cX8_init 76 = .ok (.dup, 1) := by decide +kernel
theorem dX8_init_77 : decode cX8_init 77 = .ok (.aload_n 1, 1) := by decide +kernel
theorem dX8_init_78 : decode cX8_init 78 = .ok (.aload_n 2, 1) := by decide +kernel
theorem dX8_init_79 : decode cX8_init 79 = .ok (.aload_n 3, 1) := by decide +kernel
theorem dX8_init_80 : decode cX8_init 80 = .ok (.invokespecial 49, 3) := by decide +kernel
theorem dX8_init_83 : decode cX8_init 83 = .ok (.putfield 50, 3) := by decide +kernel
theorem dX8_init_86 : decode cX8_init 86 = .ok (.aload_n 0, 1) := by decide +kernel
theorem dX8_init_87 : decode cX8_init 87 = .ok (.new 53, 3) := by decide +kernel
theorem dX8_init_90 : decode cX8_init 90 = .ok (.dup, 1) := by decide +kernel
theorem dX8_init_91 : decode cX8_init 91 = .ok (.aload_n 1, 1) := by decide +kernel
theorem dX8_init_92 : decode cX8_init 92 = .ok (.aload_n 2, 1) := by decide +kernel
theorem dX8_init_93 : decode cX8_init 93 = .ok (.aload_n 3, 1) := by decide +kernel
theorem dX8_init_94 : decode cX8_init 94 = .ok (.invokespecial 55, 3) := by decide +kernel
theorem dX8_init_97 : decode cX8_init 97 = .ok (.putfield 56, 3) := by decide +kernel
theorem dX8_init_100 : decode cX8_init 100 = .ok (.return_, 1) := by decide +kernel
theorem dX8_condition_0 : decode cX8_condition 0 = .ok (.aload_n 0, 1) := by decide +kernel
theorem dX8_condition_1 : decode cX8_condition 1 = .ok (.getfield 18, 3) := by decide +kernel
theorem dX8_condition_4 : decode cX8_condition 4 = .ok (.invokevirtual 60, 3) := by decide +kernel
theorem dX8_condition_7 : decode cX8_condition 7 = .ok (.bipush 7, 2) := by decide +kernel
theorem dX8_condition_9 : decode cX8_condition 9 = .ok (.if_icmp .lt 13, 3) := by decide +kernel
theorem dX8_condition_12 : decode cX8_condition 12 = .ok (.new 64, 3) := by decide +kernel
theorem dX8_condition_15 : decode cX8_condition 15 = .ok (.dup, 1) := by decide +kernel
theorem dX8_condition_16 : decode cX8_condition 16 = .ok (.ldc 66, 2) := by decide +kernel
theorem dX8_condition_18 : decode cX8_condition 18 = .ok (.invokespecial 68, 3) := by decide +kernel
theorem dX8_condition_21 : decode cX8_condition 21 = .ok (.athrow, 1) := by decide +kernel
theorem dX8_condition_22 : decode cX8_condition 22 = .ok (.aload_n 0, 1) := by decide +kernel
theorem dX8_condition_23 : decode cX8_condition 23 = .ok (.getfield 18, 3) := by decide +kernel
theorem dX8_condition_26 : decode cX8_condition 26 = .ok (.invokevirtual 71, 3) := by decide +kernel
theorem dX8_condition_29 : decode cX8_condition 29 = .ok (.ireturn, 1) := by decide +kernel
theorem dX8_under_0 : decode cX8_under 0 = .ok (.aload_n 0, 1) := by decide +kernel
theorem dX8_under_1 : decode cX8_under 1 = .ok (.iload_n 1, 1) := by decide +kernel
theorem dX8_under_2 : decode cX8_under 2 = .ok (.iload_n 2, 1) := by decide +kernel
theorem dX8_under_3 : decode cX8_under 3 = .ok (.invokevirtual 74, 3) := by decide +kernel
theorem dX8_under_6 : decode cX8_under 6 = .ok (.aload_n 0, 1) := by decide +kernel
theorem dX8_under_7 : decode cX8_under 7 = .ok (.getfield 18, 3) := by decide +kernel
theorem dX8_under_10 : decode cX8_under 10 = .ok (.iload_n 1, 1) := by decide +kernel
theorem dX8_under_11 : decode cX8_under 11 = .ok (.iload_n 2, 1) := by decide +kernel
theorem dX8_under_12 : decode cX8_under 12 = .ok (.invokevirtual 78, 3) := by decide +kernel
theorem dX8_under_15 : decode cX8_under 15 = .ok (.ifCond .ne 15, 3) := by decide +kernel
theorem dX8_under_18 : decode cX8_under 18 = .ok (.aload_n 0, 1) := by decide +kernel
theorem dX8_under_19 : decode cX8_under 19 = .ok (.getfield 18, 3) := by decide +kernel
theorem dX8_under_22 : decode cX8_under 22 = .ok (.iload_n 2, 1) := by decide +kernel
theorem dX8_under_23 : decode cX8_under 23 = .ok (.iload_n 1, 1) := by decide +kernel
theorem dX8_under_24 : decode cX8_under 24 = .ok (.invokevirtual 78, 3) := by decide +kernel
theorem dX8_under_27 : decode cX8_under 27 = .ok (.ifCond .eq 13, 3) := by decide +kernel
theorem dX8_under_30 : decode cX8_under 30 = .ok (.new 82, 3) := by decide +kernel
theorem dX8_under_33 : decode cX8_under 33 = .ok (.dup, 1) := by decide +kernel
theorem dX8_under_34 : decode cX8_under 34 = .ok (.ldc 84, 2) := by decide +kernel
theorem dX8_under_36 : decode cX8_under 36 = .ok (.invokespecial 86, 3) := by decide +kernel
theorem dX8_under_39 : decode cX8_under 39 = .ok (.athrow, 1) := by decide +kernel
theorem dX8_under_40 : decode cX8_under 40 = .ok (.aload_n 0, 1) := by decide +kernel
theorem dX8_under_41 : decode cX8_under 41 = .ok (.getfield 18, 3) := by decide +kernel
theorem dX8_under_44 : decode cX8_under 44 = .ok (.iload_n 1, 1) := by decide +kernel
theorem dX8_under_45 : decode cX8_under 45 = .ok (.iload_n 2, 1) := by decide +kernel
theorem dX8_under_46 : decode cX8_under 46 = .ok (.invokevirtual 87, 3) := by decide +kernel
theorem dX8_under_49 : decode cX8_under 49 = .ok (.aload_n 0, 1) := by decide +kernel
theorem dX8_under_50 : decode cX8_under 50 = .ok (.getfield 18, 3) := by decide +kernel
theorem dX8_under_53 : decode cX8_under 53 = .ok (.invokevirtual 90, 3) := by decide +kernel
theorem dX8_under_56 : decode cX8_under 56 = .ok (.ireturn, 1) := by decide +kernel
theorem dX8_isBelow_0 : decode cX8_isBelow 0 = .ok (.aload_n 0, 1) := by decide +kernel
theorem dX8_isBelow_1 : decode cX8_isBelow 1 = .ok (.iload_n 1, 1) := by decide +kernel
theorem dX8_isBelow_2 : decode cX8_isBelow 2 = .ok (.iload_n 2, 1) := by decide +kernel
theorem dX8_isBelow_3 : decode cX8_isBelow 3 = .ok (.invokevirtual 74, 3) := by decide +kernel
theorem dX8_isBelow_6 : decode cX8_isBelow 6 = .ok (.aload_n 0, 1) := by decide +kernel
theorem dX8_isBelow_7 : decode cX8_isBelow 7 = .ok (.getfield 18, 3) := by decide +kernel
theorem dX8_isBelow_10 : decode cX8_isBelow 10 = .ok (.iload_n 1, 1) := by decide +kernel
theorem dX8_isBelow_11 : decode cX8_isBelow 11 = .ok (.iload_n 2, 1) := by decide +kernel
theorem dX8_isBelow_12 : decode cX8_isBelow 12 = .ok (.invokevirtual 78, 3) := by decide +kernel
theorem dX8_isBelow_15 : decode cX8_isBelow 15 = .ok (.ireturn, 1) := by decide +kernel
theorem dX8_fit_0 : decode cX8_fit 0 = .ok (.aload_n 0, 1) := by decide +kernel
theorem dX8_fit_1 : decode cX8_fit 1 = .ok (.iload_n 1, 1) := by decide +kernel
theorem dX8_fit_2 : decode cX8_fit 2 = .ok (.iload_n 2, 1) := by decide +kernel
theorem dX8_fit_3 : decode cX8_fit 3 = .ok (.invokevirtual 74, 3) := by decide +kernel
theorem dX8_fit_6 : decode cX8_fit 6 = .ok (.aload_n 0, 1) := by decide +kernel
theorem dX8_fit_7 : decode cX8_fit 7 = .ok (.getfield 18, 3) := by decide +kernel
theorem dX8_fit_10 : decode cX8_fit 10 = .ok (.iload_n 1, 1) := by decide +kernel
theorem dX8_fit_11 : decode cX8_fit 11 = .ok (.iload_n 2, 1) := by decide +kernel
theorem dX8_fit_12 : decode cX8_fit 12 = .ok (.invokevirtual 93, 3) := by decide +kernel
theorem dX8_fit_15 : decode cX8_fit 15 = .ok (.ireturn, 1) := by decide +kernel
theorem dX8_lasts_0 : decode cX8_lasts 0 = .ok (.aload_n 0, 1) := by decide +kernel
theorem dX8_lasts_1 : decode cX8_lasts 1 = .ok (.getfield 18, 3) := by decide +kernel
theorem dX8_lasts_4 : decode cX8_lasts 4 = .ok (.invokevirtual 96, 3) := by decide +kernel
theorem dX8_lasts_7 : decode cX8_lasts 7 = .ok (.ireturn, 1) := by decide +kernel
theorem dX8_isAntichain_0 : decode cX8_isAntichain 0 = .ok (.aload_n 0, 1) := by decide +kernel
theorem dX8_isAntichain_1 : decode cX8_isAntichain 1 = .ok (.iload_n 1, 1) := by decide +kernel
theorem dX8_isAntichain_2 : decode cX8_isAntichain 2 = .ok (.invokevirtual 99, 3) := by decide +kernel
theorem dX8_isAntichain_5 : decode cX8_isAntichain 5 = .ok (.iconst 0, 1) := by decide +kernel
theorem dX8_isAntichain_6 : decode cX8_isAntichain 6 = .ok (.istore_n 2, 1) := by decide +kernel
theorem dX8_isAntichain_7 : decode cX8_isAntichain 7 = .ok (.iload_n 2, 1) := by decide +kernel
theorem dX8_isAntichain_8 : decode cX8_isAntichain 8 = .ok (.aload_n 0, 1) := by decide +kernel
theorem dX8_isAntichain_9 : decode cX8_isAntichain 9 = .ok (.getfield 18, 3) := by decide +kernel
theorem dX8_isAntichain_12 : decode cX8_isAntichain 12 = .ok (.invokevirtual 60, 3) := by decide +kernel
theorem dX8_isAntichain_15 : decode cX8_isAntichain 15 = .ok (.if_icmp .ge 60, 3) := by decide +kernel
theorem dX8_isAntichain_18 : decode cX8_isAntichain 18 = .ok (.iload_n 2, 1) := by decide +kernel
theorem dX8_isAntichain_19 : decode cX8_isAntichain 19 = .ok (.iconst 1, 1) := by decide +kernel
theorem dX8_isAntichain_20 : decode cX8_isAntichain 20 = .ok (.iadd, 1) := by decide +kernel
theorem dX8_isAntichain_21 : decode cX8_isAntichain 21 = .ok (.istore_n 3, 1) := by decide +kernel
theorem dX8_isAntichain_22 : decode cX8_isAntichain 22 = .ok (.iload_n 3, 1) := by decide +kernel
theorem dX8_isAntichain_23 : decode cX8_isAntichain 23 = .ok (.aload_n 0, 1) := by decide +kernel
theorem dX8_isAntichain_24 : decode cX8_isAntichain 24 = .ok (.getfield 18, 3) := by decide +kernel
theorem dX8_isAntichain_27 : decode cX8_isAntichain 27 = .ok (.invokevirtual 60, 3) := by decide +kernel
theorem dX8_isAntichain_30 : decode cX8_isAntichain 30 = .ok (.if_icmp .ge 39, 3) := by decide +kernel
theorem dX8_isAntichain_33 : decode cX8_isAntichain 33 = .ok (.iload_n 1, 1) := by decide +kernel
theorem dX8_isAntichain_34 : decode cX8_isAntichain 34 = .ok (.iload_n 2, 1) := by decide +kernel
theorem dX8_isAntichain_35 : decode cX8_isAntichain 35 = .ok (.invokestatic 103, 3) := by decide +kernel
theorem dX8_isAntichain_38 : decode cX8_isAntichain 38 = .ok (.ifCond .eq 25, 3) := by decide +kernel
theorem dX8_isAntichain_41 : decode cX8_isAntichain 41 = .ok (.iload_n 1, 1) := by decide +kernel
theorem dX8_isAntichain_42 : decode cX8_isAntichain 42 = .ok (.iload_n 3, 1) := by decide +kernel
theorem dX8_isAntichain_43 : decode cX8_isAntichain 43 = .ok (.invokestatic 103, 3) := by decide +kernel
theorem dX8_isAntichain_46 : decode cX8_isAntichain 46 = .ok (.ifCond .eq 17, 3) := by decide +kernel
theorem dX8_isAntichain_49 : decode cX8_isAntichain 49 = .ok (.aload_n 0, 1) := by decide +kernel
theorem dX8_isAntichain_50 : decode cX8_isAntichain 50 = .ok (.getfield 18, 3) := by decide +kernel
theorem dX8_isAntichain_53 : decode cX8_isAntichain 53 = .ok (.iload_n 2, 1) := by decide +kernel
theorem dX8_isAntichain_54 : decode cX8_isAntichain 54 = .ok (.iload_n 3, 1) := by decide +kernel
theorem dX8_isAntichain_55 : decode cX8_isAntichain 55 = .ok (.invokevirtual 93, 3) := by decide +kernel
theorem dX8_isAntichain_58 : decode cX8_isAntichain 58 = .ok (.ifCond .eq 5, 3) := by decide +kernel
theorem dX8_isAntichain_61 : decode cX8_isAntichain 61 = .ok (.iconst 0, 1) := by decide +kernel
theorem dX8_isAntichain_62 : decode cX8_isAntichain 62 = .ok (.ireturn, 1) := by decide +kernel
theorem dX8_isAntichain_63 : decode cX8_isAntichain 63 = .ok (.iinc 3 1, 3) := by decide +kernel
theorem dX8_isAntichain_66 : decode cX8_isAntichain 66 = .ok (.goto (-44), 3) := by decide +kernel
theorem dX8_isAntichain_69 : decode cX8_isAntichain 69 = .ok (.iinc 2 1, 3) := by decide +kernel
theorem dX8_isAntichain_72 : decode cX8_isAntichain 72 = .ok (.goto (-65), 3) := by decide +kernel
theorem dX8_isAntichain_75 : decode cX8_isAntichain 75 = .ok (.iconst 1, 1) := by decide +kernel
theorem dX8_isAntichain_76 : decode cX8_isAntichain 76 = .ok (.ireturn, 1) := by decide +kernel
theorem dX8_widest_0 : decode cX8_widest 0 = .ok (.aload_n 0, 1) := by decide +kernel
theorem dX8_widest_1 : decode cX8_widest 1 = .ok (.getfield 18, 3) := by decide +kernel
theorem dX8_widest_4 : decode cX8_widest 4 = .ok (.invokevirtual 96, 3) := by decide +kernel
theorem dX8_widest_7 : decode cX8_widest 7 = .ok (.invokestatic 106, 3) := by decide +kernel
theorem dX8_widest_10 : decode cX8_widest 10 = .ok (.ireturn, 1) := by decide +kernel
theorem dX8_isDense_0 : decode cX8_isDense 0 = .ok (.aload_n 0, 1) := by decide +kernel
theorem dX8_isDense_1 : decode cX8_isDense 1 = .ok (.iload_n 1, 1) := by decide +kernel
theorem dX8_isDense_2 : decode cX8_isDense 2 = .ok (.invokevirtual 99, 3) := by decide +kernel
theorem dX8_isDense_5 : decode cX8_isDense 5 = .ok (.iconst 0, 1) := by decide +kernel
theorem dX8_isDense_6 : decode cX8_isDense 6 = .ok (.istore_n 2, 1) := by decide +kernel
theorem dX8_isDense_7 : decode cX8_isDense 7 = .ok (.iload_n 2, 1) := by decide +kernel
theorem dX8_isDense_8 : decode cX8_isDense 8 = .ok (.aload_n 0, 1) := by decide +kernel
theorem dX8_isDense_9 : decode cX8_isDense 9 = .ok (.getfield 18, 3) := by decide +kernel
theorem dX8_isDense_12 : decode cX8_isDense 12 = .ok (.invokevirtual 60, 3) := by decide +kernel
theorem dX8_isDense_15 : decode cX8_isDense 15 = .ok (.if_icmp .ge 24, 3) := by decide +kernel
theorem dX8_isDense_18 : decode cX8_isDense 18 = .ok (.aload_n 0, 1) := by decide +kernel
theorem dX8_isDense_19 : decode cX8_isDense 19 = .ok (.getfield 18, 3) := by decide +kernel
theorem dX8_isDense_22 : decode cX8_isDense 22 = .ok (.iload_n 2, 1) := by decide +kernel
theorem dX8_isDense_23 : decode cX8_isDense 23 = .ok (.invokevirtual 112, 3) := by decide +kernel
theorem dX8_isDense_26 : decode cX8_isDense 26 = .ok (.iload_n 1, 1) := by decide +kernel
theorem dX8_isDense_27 : decode cX8_isDense 27 = .ok (.iand, 1) := by decide +kernel
theorem dX8_isDense_28 : decode cX8_isDense 28 = .ok (.ifCond .ne 5, 3) := by decide +kernel
theorem dX8_isDense_31 : decode cX8_isDense 31 = .ok (.iconst 0, 1) := by decide +kernel
theorem dX8_isDense_32 : decode cX8_isDense 32 = .ok (.ireturn, 1) := by decide +kernel
theorem dX8_isDense_33 : decode cX8_isDense 33 = .ok (.iinc 2 1, 3) := by decide +kernel
theorem dX8_isDense_36 : decode cX8_isDense 36 = .ok (.goto (-29), 3) := by decide +kernel
theorem dX8_isDense_39 : decode cX8_isDense 39 = .ok (.iconst 1, 1) := by decide +kernel
theorem dX8_isDense_40 : decode cX8_isDense 40 = .ok (.ireturn, 1) := by decide +kernel
theorem dX8_isFilter_0 : decode cX8_isFilter 0 = .ok (.aload_n 0, 1) := by decide +kernel
theorem dX8_isFilter_1 : decode cX8_isFilter 1 = .ok (.iload_n 1, 1) := by decide +kernel
theorem dX8_isFilter_2 : decode cX8_isFilter 2 = .ok (.invokevirtual 99, 3) := by decide +kernel
theorem dX8_isFilter_5 : decode cX8_isFilter 5 = .ok (.iload_n 1, 1) := by decide +kernel
theorem dX8_isFilter_6 : decode cX8_isFilter 6 = .ok (.ifCond .ne 5, 3) := by decide +kernel
theorem dX8_isFilter_9 : decode cX8_isFilter 9 = .ok (.iconst 0, 1) := by decide +kernel
theorem dX8_isFilter_10 : decode cX8_isFilter 10 = .ok (.ireturn, 1) := by decide +kernel
theorem dX8_isFilter_11 : decode cX8_isFilter 11 = .ok (.iconst 0, 1) := by decide +kernel
theorem dX8_isFilter_12 : decode cX8_isFilter 12 = .ok (.istore_n 2, 1) := by decide +kernel
theorem dX8_isFilter_13 : decode cX8_isFilter 13 = .ok (.iload_n 2, 1) := by decide +kernel
theorem dX8_isFilter_14 : decode cX8_isFilter 14 = .ok (.aload_n 0, 1) := by decide +kernel
theorem dX8_isFilter_15 : decode cX8_isFilter 15 = .ok (.getfield 18, 3) := by decide +kernel
theorem dX8_isFilter_18 : decode cX8_isFilter 18 = .ok (.invokevirtual 60, 3) := by decide +kernel
theorem dX8_isFilter_21 : decode cX8_isFilter 21 = .ok (.if_icmp .ge 43, 3) := by decide +kernel
theorem dX8_isFilter_24 : decode cX8_isFilter 24 = .ok (.iload_n 1, 1) := by decide +kernel
theorem dX8_isFilter_25 : decode cX8_isFilter 25 = .ok (.iload_n 2, 1) := by decide +kernel
theorem dX8_isFilter_26 : decode cX8_isFilter 26 = .ok (.invokestatic 103, 3) := by decide +kernel
theorem dX8_isFilter_29 : decode cX8_isFilter 29 = .ok (.ifCond .eq 29, 3) := by decide +kernel
theorem dX8_isFilter_32 : decode cX8_isFilter 32 = .ok (.aload_n 0, 1) := by decide +kernel
theorem dX8_isFilter_33 : decode cX8_isFilter 33 = .ok (.getfield 18, 3) := by decide +kernel
theorem dX8_isFilter_36 : decode cX8_isFilter 36 = .ok (.iload_n 2, 1) := by decide +kernel
theorem dX8_isFilter_37 : decode cX8_isFilter 37 = .ok (.invokevirtual 115, 3) := by decide +kernel
theorem dX8_isFilter_40 : decode cX8_isFilter 40 = .ok (.iload_n 1, 1) := by decide +kernel
theorem dX8_isFilter_41 : decode cX8_isFilter 41 = .ok (.invokestatic 118, 3) := by decide +kernel
theorem dX8_isFilter_44 : decode cX8_isFilter 44 = .ok (.ifCond .eq 12, 3) := by decide +kernel
theorem dX8_isFilter_47 : decode cX8_isFilter 47 = .ok (.aload_n 0, 1) := by decide +kernel
theorem dX8_isFilter_48 : decode cX8_isFilter 48 = .ok (.iload_n 2, 1) := by decide +kernel
theorem dX8_isFilter_49 : decode cX8_isFilter 49 = .ok (.iload_n 1, 1) := by decide +kernel
theorem dX8_isFilter_50 : decode cX8_isFilter 50 = .ok (.invokevirtual 121, 3) := by decide +kernel
theorem dX8_isFilter_53 : decode cX8_isFilter 53 = .ok (.ifCond .ne 5, 3) := by decide +kernel
theorem dX8_isFilter_56 : decode cX8_isFilter 56 = .ok (.iconst 0, 1) := by decide +kernel
theorem dX8_isFilter_57 : decode cX8_isFilter 57 = .ok (.ireturn, 1) := by decide +kernel
theorem dX8_isFilter_58 : decode cX8_isFilter 58 = .ok (.iinc 2 1, 3) := by decide +kernel
theorem dX8_isFilter_61 : decode cX8_isFilter 61 = .ok (.goto (-48), 3) := by decide +kernel
theorem dX8_isFilter_64 : decode cX8_isFilter 64 = .ok (.iconst 1, 1) := by decide +kernel
theorem dX8_isFilter_65 : decode cX8_isFilter 65 = .ok (.ireturn, 1) := by decide +kernel
theorem dX8_meetsAll_0 : decode cX8_meetsAll 0 = .ok (.iconst 0, 1) := by decide +kernel
theorem dX8_meetsAll_1 : decode cX8_meetsAll 1 = .ok (.istore_n 3, 1) := by decide +kernel
theorem dX8_meetsAll_2 : decode cX8_meetsAll 2 = .ok (.iload_n 3, 1) := by decide +kernel
theorem dX8_meetsAll_3 : decode cX8_meetsAll 3 = .ok (.aload_n 0, 1) := by decide +kernel
theorem dX8_meetsAll_4 : decode cX8_meetsAll 4 = .ok (.getfield 18, 3) := by decide +kernel
theorem dX8_meetsAll_7 : decode cX8_meetsAll 7 = .ok (.invokevirtual 60, 3) := by decide +kernel
theorem dX8_meetsAll_10 : decode cX8_meetsAll 10 = .ok (.if_icmp .ge 41, 3) := by decide +kernel
theorem dX8_meetsAll_13 : decode cX8_meetsAll 13 = .ok (.iload_n 2, 1) := by decide +kernel
theorem dX8_meetsAll_14 : decode cX8_meetsAll 14 = .ok (.iload_n 3, 1) := by decide +kernel
theorem dX8_meetsAll_15 : decode cX8_meetsAll 15 = .ok (.invokestatic 103, 3) := by decide +kernel
theorem dX8_meetsAll_18 : decode cX8_meetsAll 18 = .ok (.ifCond .eq 27, 3) := by decide +kernel
theorem dX8_meetsAll_21 : decode cX8_meetsAll 21 = .ok (.aload_n 0, 1) := by decide +kernel
theorem dX8_meetsAll_22 : decode cX8_meetsAll 22 = .ok (.getfield 18, 3) := by decide +kernel
theorem dX8_meetsAll_25 : decode cX8_meetsAll 25 = .ok (.iload_n 1, 1) := by decide +kernel
theorem dX8_meetsAll_26 : decode cX8_meetsAll 26 = .ok (.invokevirtual 112, 3) := by decide +kernel
theorem dX8_meetsAll_29 : decode cX8_meetsAll 29 = .ok (.aload_n 0, 1) := by decide +kernel
theorem dX8_meetsAll_30 : decode cX8_meetsAll 30 = .ok (.getfield 18, 3) := by decide +kernel
theorem dX8_meetsAll_33 : decode cX8_meetsAll 33 = .ok (.iload_n 3, 1) := by decide +kernel
theorem dX8_meetsAll_34 : decode cX8_meetsAll 34 = .ok (.invokevirtual 112, 3) := by decide +kernel
theorem dX8_meetsAll_37 : decode cX8_meetsAll 37 = .ok (.iand, 1) := by decide +kernel
theorem dX8_meetsAll_38 : decode cX8_meetsAll 38 = .ok (.iload_n 2, 1) := by decide +kernel
theorem dX8_meetsAll_39 : decode cX8_meetsAll 39 = .ok (.iand, 1) := by decide +kernel
theorem dX8_meetsAll_40 : decode cX8_meetsAll 40 = .ok (.ifCond .ne 5, 3) := by decide +kernel
theorem dX8_meetsAll_43 : decode cX8_meetsAll 43 = .ok (.iconst 0, 1) := by decide +kernel
theorem dX8_meetsAll_44 : decode cX8_meetsAll 44 = .ok (.ireturn, 1) := by decide +kernel
theorem dX8_meetsAll_45 : decode cX8_meetsAll 45 = .ok (.iinc 3 1, 3) := by decide +kernel
theorem dX8_meetsAll_48 : decode cX8_meetsAll 48 = .ok (.goto (-46), 3) := by decide +kernel
theorem dX8_meetsAll_51 : decode cX8_meetsAll 51 = .ok (.iconst 1, 1) := by decide +kernel
theorem dX8_meetsAll_52 : decode cX8_meetsAll 52 = .ok (.ireturn, 1) := by decide +kernel
theorem dX8_filters_0 : decode cX8_filters 0 = .ok (.aload_n 0, 1) := by decide +kernel
theorem dX8_filters_1 : decode cX8_filters 1 = .ok (.getfield 18, 3) := by decide +kernel
theorem dX8_filters_4 : decode cX8_filters 4 = .ok (.invokevirtual 60, 3) := by decide +kernel
theorem dX8_filters_7 : decode cX8_filters 7 = .ok (.ireturn, 1) := by decide +kernel
theorem dX8_isSeparative_0 : decode cX8_isSeparative 0 = .ok (.iconst 0, 1) := by decide +kernel
theorem dX8_isSeparative_1 : decode cX8_isSeparative 1 = .ok (.istore_n 1, 1) := by decide +kernel
theorem dX8_isSeparative_2 : decode cX8_isSeparative 2 = .ok (.iload_n 1, 1) := by decide +kernel
theorem dX8_isSeparative_3 : decode cX8_isSeparative 3 = .ok (.aload_n 0, 1) := by decide +kernel
theorem dX8_isSeparative_4 : decode cX8_isSeparative 4 = .ok (.getfield 18, 3) := by decide +kernel
theorem dX8_isSeparative_7 : decode cX8_isSeparative 7 = .ok (.invokevirtual 60, 3) := by decide +kernel
theorem dX8_isSeparative_10 : decode cX8_isSeparative 10 = .ok (.if_icmp .ge 51, 3) := by decide +kernel
theorem dX8_isSeparative_13 : decode cX8_isSeparative 13 = .ok (.iconst 0, 1) := by decide +kernel
theorem dX8_isSeparative_14 : decode cX8_isSeparative 14 = .ok (.istore_n 2, 1) := by decide +kernel
theorem dX8_isSeparative_15 : decode cX8_isSeparative 15 = .ok (.iload_n 2, 1) := by decide +kernel
theorem dX8_isSeparative_16 : decode cX8_isSeparative 16 = .ok (.aload_n 0, 1) := by decide +kernel
theorem dX8_isSeparative_17 : decode cX8_isSeparative 17 = .ok (.getfield 18, 3) := by decide +kernel
theorem dX8_isSeparative_20 : decode cX8_isSeparative 20 = .ok (.invokevirtual 60, 3) := by decide +kernel
theorem dX8_isSeparative_23 : decode cX8_isSeparative 23 = .ok (.if_icmp .ge 32, 3) := by decide +kernel
theorem dX8_isSeparative_26 : decode cX8_isSeparative 26 = .ok (.aload_n 0, 1) := by decide +kernel
theorem dX8_isSeparative_27 : decode cX8_isSeparative 27 = .ok (.getfield 18, 3) := by decide +kernel
theorem dX8_isSeparative_30 : decode cX8_isSeparative 30 = .ok (.iload_n 1, 1) := by decide +kernel
theorem dX8_isSeparative_31 : decode cX8_isSeparative 31 = .ok (.iload_n 2, 1) := by decide +kernel
theorem dX8_isSeparative_32 : decode cX8_isSeparative 32 = .ok (.invokevirtual 78, 3) := by decide +kernel
theorem dX8_isSeparative_35 : decode cX8_isSeparative 35 = .ok (.ifCond .ne 14, 3) := by decide +kernel
theorem dX8_isSeparative_38 : decode cX8_isSeparative 38 = .ok (.aload_n 0, 1) := by decide +kernel
theorem dX8_isSeparative_39 : decode cX8_isSeparative 39 = .ok (.iload_n 1, 1) := by decide +kernel
theorem dX8_isSeparative_40 : decode cX8_isSeparative 40 = .ok (.iload_n 2, 1) := by decide +kernel
theorem dX8_isSeparative_41 : decode cX8_isSeparative 41 = .ok (.invokevirtual 124, 3) := by decide +kernel
theorem dX8_isSeparative_44 : decode cX8_isSeparative 44 = .ok (.ifCond .ne 5, 3) := by decide +kernel
theorem dX8_isSeparative_47 : decode cX8_isSeparative 47 = .ok (.iconst 0, 1) := by decide +kernel
theorem dX8_isSeparative_48 : decode cX8_isSeparative 48 = .ok (.ireturn, 1) := by decide +kernel
theorem dX8_isSeparative_49 : decode cX8_isSeparative 49 = .ok (.iinc 2 1, 3) := by decide +kernel
theorem dX8_isSeparative_52 : decode cX8_isSeparative 52 = .ok (.goto (-37), 3) := by decide +kernel
theorem dX8_isSeparative_55 : decode cX8_isSeparative 55 = .ok (.iinc 1 1, 3) := by decide +kernel
theorem dX8_isSeparative_58 : decode cX8_isSeparative 58 = .ok (.goto (-56), 3) := by decide +kernel
theorem dX8_isSeparative_61 : decode cX8_isSeparative 61 = .ok (.iconst 1, 1) := by decide +kernel
theorem dX8_isSeparative_62 : decode cX8_isSeparative 62 = .ok (.ireturn, 1) := by decide +kernel
theorem dX8_canAvoid_0 : decode cX8_canAvoid 0 = .ok (.iconst 0, 1) := by decide +kernel
theorem dX8_canAvoid_1 : decode cX8_canAvoid 1 = .ok (.istore_n 3, 1) := by decide +kernel
theorem dX8_canAvoid_2 : decode cX8_canAvoid 2 = .ok (.iload_n 3, 1) := by decide +kernel
theorem dX8_canAvoid_3 : decode cX8_canAvoid 3 = .ok (.aload_n 0, 1) := by decide +kernel
theorem dX8_canAvoid_4 : decode cX8_canAvoid 4 = .ok (.getfield 18, 3) := by decide +kernel
theorem dX8_canAvoid_7 : decode cX8_canAvoid 7 = .ok (.invokevirtual 60, 3) := by decide +kernel
theorem dX8_canAvoid_10 : decode cX8_canAvoid 10 = .ok (.if_icmp .ge 35, 3) := by decide +kernel
theorem dX8_canAvoid_13 : decode cX8_canAvoid 13 = .ok (.aload_n 0, 1) := by decide +kernel
theorem dX8_canAvoid_14 : decode cX8_canAvoid 14 = .ok (.getfield 18, 3) := by decide +kernel
theorem dX8_canAvoid_17 : decode cX8_canAvoid 17 = .ok (.iload_n 3, 1) := by decide +kernel
theorem dX8_canAvoid_18 : decode cX8_canAvoid 18 = .ok (.iload_n 1, 1) := by decide +kernel
theorem dX8_canAvoid_19 : decode cX8_canAvoid 19 = .ok (.invokevirtual 78, 3) := by decide +kernel
theorem dX8_canAvoid_22 : decode cX8_canAvoid 22 = .ok (.ifCond .eq 17, 3) := by decide +kernel
theorem dX8_canAvoid_25 : decode cX8_canAvoid 25 = .ok (.aload_n 0, 1) := by decide +kernel
theorem dX8_canAvoid_26 : decode cX8_canAvoid 26 = .ok (.getfield 18, 3) := by decide +kernel
theorem dX8_canAvoid_29 : decode cX8_canAvoid 29 = .ok (.iload_n 3, 1) := by decide +kernel
theorem dX8_canAvoid_30 : decode cX8_canAvoid 30 = .ok (.iload_n 2, 1) := by decide +kernel
theorem dX8_canAvoid_31 : decode cX8_canAvoid 31 = .ok (.invokevirtual 93, 3) := by decide +kernel
theorem dX8_canAvoid_34 : decode cX8_canAvoid 34 = .ok (.ifCond .ne 5, 3) := by decide +kernel
theorem dX8_canAvoid_37 : decode cX8_canAvoid 37 = .ok (.iconst 1, 1) := by decide +kernel
theorem dX8_canAvoid_38 : decode cX8_canAvoid 38 = .ok (.ireturn, 1) := by decide +kernel
theorem dX8_canAvoid_39 : decode cX8_canAvoid 39 = .ok (.iinc 3 1, 3) := by decide +kernel
theorem dX8_canAvoid_42 : decode cX8_canAvoid 42 = .ok (.goto (-40), 3) := by decide +kernel
theorem dX8_canAvoid_45 : decode cX8_canAvoid 45 = .ok (.iconst 0, 1) := by decide +kernel
theorem dX8_canAvoid_46 : decode cX8_canAvoid 46 = .ok (.ireturn, 1) := by decide +kernel
theorem dX8_cut_0 : decode cX8_cut 0 = .ok (.aload_n 0, 1) := by decide +kernel
theorem dX8_cut_1 : decode cX8_cut 1 = .ok (.iload_n 1, 1) := by decide +kernel
theorem dX8_cut_2 : decode cX8_cut 2 = .ok (.invokevirtual 127, 3) := by decide +kernel
theorem dX8_cut_5 : decode cX8_cut 5 = .ok (.aload_n 0, 1) := by decide +kernel
theorem dX8_cut_6 : decode cX8_cut 6 = .ok (.getfield 18, 3) := by decide +kernel
theorem dX8_cut_9 : decode cX8_cut 9 = .ok (.iload_n 1, 1) := by decide +kernel
theorem dX8_cut_10 : decode cX8_cut 10 = .ok (.invokevirtual 130, 3) := by decide +kernel
theorem dX8_cut_13 : decode cX8_cut 13 = .ok (.ireturn, 1) := by decide +kernel
theorem dX8_closure_0 : decode cX8_closure 0 = .ok (.aload_n 0, 1) := by decide +kernel
theorem dX8_closure_1 : decode cX8_closure 1 = .ok (.iload_n 1, 1) := by decide +kernel
theorem dX8_closure_2 : decode cX8_closure 2 = .ok (.invokevirtual 99, 3) := by decide +kernel
theorem dX8_closure_5 : decode cX8_closure 5 = .ok (.iconst 0, 1) := by decide +kernel
theorem dX8_closure_6 : decode cX8_closure 6 = .ok (.istore_n 2, 1) := by decide +kernel
theorem dX8_closure_7 : decode cX8_closure 7 = .ok (.iconst 0, 1) := by decide +kernel
theorem dX8_closure_8 : decode cX8_closure 8 = .ok (.istore_n 3, 1) := by decide +kernel
theorem dX8_closure_9 : decode cX8_closure 9 = .ok (.iload_n 3, 1) := by decide +kernel
theorem dX8_closure_10 : decode cX8_closure 10 = .ok (.aload_n 0, 1) := by decide +kernel
theorem dX8_closure_11 : decode cX8_closure 11 = .ok (.getfield 18, 3) := by decide +kernel
theorem dX8_closure_14 : decode cX8_closure 14 = .ok (.invokevirtual 60, 3) := by decide +kernel
theorem dX8_closure_17 : decode cX8_closure 17 = .ok (.if_icmp .ge 28, 3) := by decide +kernel
theorem dX8_closure_20 : decode cX8_closure 20 = .ok (.iload_n 1, 1) := by decide +kernel
theorem dX8_closure_21 : decode cX8_closure 21 = .ok (.iload_n 3, 1) := by decide +kernel
theorem dX8_closure_22 : decode cX8_closure 22 = .ok (.invokestatic 103, 3) := by decide +kernel
theorem dX8_closure_25 : decode cX8_closure 25 = .ok (.ifCond .eq 14, 3) := by decide +kernel
theorem dX8_closure_28 : decode cX8_closure 28 = .ok (.iload_n 2, 1) := by decide +kernel
theorem dX8_closure_29 : decode cX8_closure 29 = .ok (.aload_n 0, 1) := by decide +kernel
theorem dX8_closure_30 : decode cX8_closure 30 = .ok (.getfield 18, 3) := by decide +kernel
theorem dX8_closure_33 : decode cX8_closure 33 = .ok (.iload_n 3, 1) := by decide +kernel
theorem dX8_closure_34 : decode cX8_closure 34 = .ok (.invokevirtual 130, 3) := by decide +kernel
theorem dX8_closure_37 : decode cX8_closure 37 = .ok (.ior, 1) := by decide +kernel
theorem dX8_closure_38 : decode cX8_closure 38 = .ok (.istore_n 2, 1) := by decide +kernel
theorem dX8_closure_39 : decode cX8_closure 39 = .ok (.iinc 3 1, 3) := by decide +kernel
theorem dX8_closure_42 : decode cX8_closure 42 = .ok (.goto (-33), 3) := by decide +kernel
theorem dX8_closure_45 : decode cX8_closure 45 = .ok (.iconst 0, 1) := by decide +kernel
theorem dX8_closure_46 : decode cX8_closure 46 = .ok (.istore_n 3, 1) := by decide +kernel
theorem dX8_closure_47 : decode cX8_closure 47 = .ok (.iconst 0, 1) := by decide +kernel
theorem dX8_closure_48 : decode cX8_closure 48 = .ok (.istore 4, 2) := by decide +kernel
theorem dX8_closure_50 : decode cX8_closure 50 = .ok (.iload 4, 2) := by decide +kernel
theorem dX8_closure_52 : decode cX8_closure 52 = .ok (.aload_n 0, 1) := by decide +kernel
theorem dX8_closure_53 : decode cX8_closure 53 = .ok (.getfield 18, 3) := by decide +kernel
theorem dX8_closure_56 : decode cX8_closure 56 = .ok (.invokevirtual 60, 3) := by decide +kernel
theorem dX8_closure_59 : decode cX8_closure 59 = .ok (.if_icmp .ge 32, 3) := by decide +kernel
theorem dX8_closure_62 : decode cX8_closure 62 = .ok (.aload_n 0, 1) := by decide +kernel
theorem dX8_closure_63 : decode cX8_closure 63 = .ok (.getfield 18, 3) := by decide +kernel
theorem dX8_closure_66 : decode cX8_closure 66 = .ok (.iload 4, 2) := by decide +kernel
theorem dX8_closure_68 : decode cX8_closure 68 = .ok (.invokevirtual 130, 3) := by decide +kernel
theorem dX8_closure_71 : decode cX8_closure 71 = .ok (.iload_n 2, 1) := by decide +kernel
theorem dX8_closure_72 : decode cX8_closure 72 = .ok (.invokestatic 118, 3) := by decide +kernel
theorem dX8_closure_75 : decode cX8_closure 75 = .ok (.ifCond .eq 10, 3) := by decide +kernel
theorem dX8_closure_78 : decode cX8_closure 78 = .ok (.iload_n 3, 1) := by decide +kernel
theorem dX8_closure_79 : decode cX8_closure 79 = .ok (.iconst 1, 1) := by decide +kernel
theorem dX8_closure_80 : decode cX8_closure 80 = .ok (.iload 4, 2) := by decide +kernel
theorem dX8_closure_82 : decode cX8_closure 82 = .ok (.ishl, 1) := by decide +kernel
theorem dX8_closure_83 : decode cX8_closure 83 = .ok (.ior, 1) := by decide +kernel
theorem dX8_closure_84 : decode cX8_closure 84 = .ok (.istore_n 3, 1) := by decide +kernel
theorem dX8_closure_85 : decode cX8_closure 85 = .ok (.iinc 4 1, 3) := by decide +kernel
theorem dX8_closure_88 : decode cX8_closure 88 = .ok (.goto (-38), 3) := by decide +kernel
theorem dX8_closure_91 : decode cX8_closure 91 = .ok (.iload_n 3, 1) := by decide +kernel
theorem dX8_closure_92 : decode cX8_closure 92 = .ok (.ireturn, 1) := by decide +kernel
theorem dX8_filterOf_0 : decode cX8_filterOf 0 = .ok (.aload_n 0, 1) := by decide +kernel
theorem dX8_filterOf_1 : decode cX8_filterOf 1 = .ok (.iload_n 1, 1) := by decide +kernel
theorem dX8_filterOf_2 : decode cX8_filterOf 2 = .ok (.invokevirtual 133, 3) := by decide +kernel
theorem dX8_filterOf_5 : decode cX8_filterOf 5 = .ok (.aload_n 0, 1) := by decide +kernel
theorem dX8_filterOf_6 : decode cX8_filterOf 6 = .ok (.getfield 18, 3) := by decide +kernel
theorem dX8_filterOf_9 : decode cX8_filterOf 9 = .ok (.iload_n 1, 1) := by decide +kernel
theorem dX8_filterOf_10 : decode cX8_filterOf 10 = .ok (.invokevirtual 115, 3) := by decide +kernel
theorem dX8_filterOf_13 : decode cX8_filterOf 13 = .ok (.ireturn, 1) := by decide +kernel
theorem dX8_name_0 : decode cX8_name 0 = .ok (.aload_n 0, 1) := by decide +kernel
theorem dX8_name_1 : decode cX8_name 1 = .ok (.iconst 1, 1) := by decide +kernel
theorem dX8_name_2 : decode cX8_name 2 = .ok (.invokevirtual 136, 3) := by decide +kernel
theorem dX8_name_5 : decode cX8_name 5 = .ok (.aload_n 0, 1) := by decide +kernel
theorem dX8_name_6 : decode cX8_name 6 = .ok (.getfield 24, 3) := by decide +kernel
theorem dX8_name_9 : decode cX8_name 9 = .ok (.invokevirtual 139, 3) := by decide +kernel
theorem dX8_name_12 : decode cX8_name 12 = .ok (.ireturn, 1) := by decide +kernel
theorem dX8_pair_0 : decode cX8_pair 0 = .ok (.aload_n 0, 1) := by decide +kernel
theorem dX8_pair_1 : decode cX8_pair 1 = .ok (.iload_n 1, 1) := by decide +kernel
theorem dX8_pair_2 : decode cX8_pair 2 = .ok (.invokevirtual 140, 3) := by decide +kernel
theorem dX8_pair_5 : decode cX8_pair 5 = .ok (.aload_n 0, 1) := by decide +kernel
theorem dX8_pair_6 : decode cX8_pair 6 = .ok (.iload_n 2, 1) := by decide +kernel
theorem dX8_pair_7 : decode cX8_pair 7 = .ok (.invokevirtual 140, 3) := by decide +kernel
theorem dX8_pair_10 : decode cX8_pair 10 = .ok (.aload_n 0, 1) := by decide +kernel
theorem dX8_pair_11 : decode cX8_pair 11 = .ok (.iload_n 3, 1) := by decide +kernel
theorem dX8_pair_12 : decode cX8_pair 12 = .ok (.invokevirtual 127, 3) := by decide +kernel
theorem dX8_pair_15 : decode cX8_pair 15 = .ok (.iload_n 2, 1) := by decide +kernel
theorem dX8_pair_16 : decode cX8_pair 16 = .ok (.iload_n 1, 1) := by decide +kernel
theorem dX8_pair_17 : decode cX8_pair 17 = .ok (.if_icmp .lt 13, 3) := by decide +kernel
theorem dX8_pair_20 : decode cX8_pair 20 = .ok (.new 143, 3) := by decide +kernel
theorem dX8_pair_23 : decode cX8_pair 23 = .ok (.dup, 1) := by decide +kernel
theorem dX8_pair_24 : decode cX8_pair 24 = .ok (.ldc 145, 2) := by decide +kernel
theorem dX8_pair_26 : decode cX8_pair 26 = .ok (.invokespecial 147, 3) := by decide +kernel
theorem dX8_pair_29 : decode cX8_pair 29 = .ok (.athrow, 1) := by decide +kernel
theorem dX8_pair_30 : decode cX8_pair 30 = .ok (.aload_n 0, 1) := by decide +kernel
theorem dX8_pair_31 : decode cX8_pair 31 = .ok (.getfield 24, 3) := by decide +kernel
theorem dX8_pair_34 : decode cX8_pair 34 = .ok (.iload_n 1, 1) := by decide +kernel
theorem dX8_pair_35 : decode cX8_pair 35 = .ok (.invokevirtual 148, 3) := by decide +kernel
theorem dX8_pair_38 : decode cX8_pair 38 = .ok (.ifCond .ne 28, 3) := by decide +kernel
theorem dX8_pair_41 : decode cX8_pair 41 = .ok (.aload_n 0, 1) := by decide +kernel
theorem dX8_pair_42 : decode cX8_pair 42 = .ok (.getfield 24, 3) := by decide +kernel
theorem dX8_pair_45 : decode cX8_pair 45 = .ok (.iload_n 1, 1) := by decide +kernel
theorem dX8_pair_46 : decode cX8_pair 46 = .ok (.iload_n 2, 1) := by decide +kernel
theorem dX8_pair_47 : decode cX8_pair 47 = .ok (.iload_n 3, 1) := by decide +kernel
theorem dX8_pair_48 : decode cX8_pair 48 = .ok (.invokevirtual 152, 3) := by decide +kernel
theorem dX8_pair_51 : decode cX8_pair 51 = .ok (.ifCond .ne 15, 3) := by decide +kernel
theorem dX8_pair_54 : decode cX8_pair 54 = .ok (.aload_n 0, 1) := by decide +kernel
theorem dX8_pair_55 : decode cX8_pair 55 = .ok (.getfield 24, 3) := by decide +kernel
theorem dX8_pair_58 : decode cX8_pair 58 = .ok (.iload_n 1, 1) := by decide +kernel
theorem dX8_pair_59 : decode cX8_pair 59 = .ok (.iload_n 2, 1) := by decide +kernel
theorem dX8_pair_60 : decode cX8_pair 60 = .ok (.invokevirtual 156, 3) := by decide +kernel
theorem dX8_pair_63 : decode cX8_pair 63 = .ok (.ifCond .eq 13, 3) := by decide +kernel
theorem dX8_pair_66 : decode cX8_pair 66 = .ok (.new 82, 3) := by decide +kernel
theorem dX8_pair_69 : decode cX8_pair 69 = .ok (.dup, 1) := by decide +kernel
theorem dX8_pair_70 : decode cX8_pair 70 = .ok (.ldc 159, 2) := by decide +kernel
theorem dX8_pair_72 : decode cX8_pair 72 = .ok (.invokespecial 86, 3) := by decide +kernel
theorem dX8_pair_75 : decode cX8_pair 75 = .ok (.athrow, 1) := by decide +kernel
theorem dX8_pair_76 : decode cX8_pair 76 = .ok (.aload_n 0, 1) := by decide +kernel
theorem dX8_pair_77 : decode cX8_pair 77 = .ok (.getfield 24, 3) := by decide +kernel
theorem dX8_pair_80 : decode cX8_pair 80 = .ok (.iload_n 1, 1) := by decide +kernel
theorem dX8_pair_81 : decode cX8_pair 81 = .ok (.invokevirtual 161, 3) := by decide +kernel
theorem dX8_pair_84 : decode cX8_pair 84 = .ok (.iconst 4, 1) := by decide +kernel
theorem dX8_pair_85 : decode cX8_pair 85 = .ok (.if_icmp .lt 13, 3) := by decide +kernel
theorem dX8_pair_88 : decode cX8_pair 88 = .ok (.new 64, 3) := by decide +kernel
theorem dX8_pair_91 : decode cX8_pair 91 = .ok (.dup, 1) := by decide +kernel
theorem dX8_pair_92 : decode cX8_pair 92 = .ok (.ldc 164, 2) := by decide +kernel
theorem dX8_pair_94 : decode cX8_pair 94 = .ok (.invokespecial 68, 3) := by decide +kernel
theorem dX8_pair_97 : decode cX8_pair 97 = .ok (.athrow, 1) := by decide +kernel
theorem dX8_pair_98 : decode cX8_pair 98 = .ok (.aload_n 0, 1) := by decide +kernel
theorem dX8_pair_99 : decode cX8_pair 99 = .ok (.getfield 24, 3) := by decide +kernel
theorem dX8_pair_102 : decode cX8_pair 102 = .ok (.iload_n 1, 1) := by decide +kernel
theorem dX8_pair_103 : decode cX8_pair 103 = .ok (.iload_n 2, 1) := by decide +kernel
theorem dX8_pair_104 : decode cX8_pair 104 = .ok (.iload_n 3, 1) := by decide +kernel
theorem dX8_pair_105 : decode cX8_pair 105 = .ok (.invokevirtual 166, 3) := by decide +kernel
theorem dX8_pair_108 : decode cX8_pair 108 = .ok (.aload_n 0, 1) := by decide +kernel
theorem dX8_pair_109 : decode cX8_pair 109 = .ok (.getfield 24, 3) := by decide +kernel
theorem dX8_pair_112 : decode cX8_pair 112 = .ok (.iload_n 1, 1) := by decide +kernel
theorem dX8_pair_113 : decode cX8_pair 113 = .ok (.invokevirtual 161, 3) := by decide +kernel
theorem dX8_pair_116 : decode cX8_pair 116 = .ok (.ireturn, 1) := by decide +kernel
theorem dX8_unpair_0 : decode cX8_unpair 0 = .ok (.aload_n 0, 1) := by decide +kernel
theorem dX8_unpair_1 : decode cX8_unpair 1 = .ok (.iload_n 1, 1) := by decide +kernel
theorem dX8_unpair_2 : decode cX8_unpair 2 = .ok (.invokevirtual 140, 3) := by decide +kernel
theorem dX8_unpair_5 : decode cX8_unpair 5 = .ok (.aload_n 0, 1) := by decide +kernel
theorem dX8_unpair_6 : decode cX8_unpair 6 = .ok (.getfield 24, 3) := by decide +kernel
theorem dX8_unpair_9 : decode cX8_unpair 9 = .ok (.iload_n 1, 1) := by decide +kernel
theorem dX8_unpair_10 : decode cX8_unpair 10 = .ok (.invokevirtual 148, 3) := by decide +kernel
theorem dX8_unpair_13 : decode cX8_unpair 13 = .ok (.ifCond .ne 14, 3) := by decide +kernel
theorem dX8_unpair_16 : decode cX8_unpair 16 = .ok (.aload_n 0, 1) := by decide +kernel
theorem dX8_unpair_17 : decode cX8_unpair 17 = .ok (.getfield 24, 3) := by decide +kernel
theorem dX8_unpair_20 : decode cX8_unpair 20 = .ok (.iload_n 1, 1) := by decide +kernel
theorem dX8_unpair_21 : decode cX8_unpair 21 = .ok (.invokevirtual 161, 3) := by decide +kernel
theorem dX8_unpair_24 : decode cX8_unpair 24 = .ok (.ifCond .ne 13, 3) := by decide +kernel
theorem dX8_unpair_27 : decode cX8_unpair 27 = .ok (.new 82, 3) := by decide +kernel
theorem dX8_unpair_30 : decode cX8_unpair 30 = .ok (.dup, 1) := by decide +kernel
theorem dX8_unpair_31 : decode cX8_unpair 31 = .ok (.ldc 170, 2) := by decide +kernel
theorem dX8_unpair_33 : decode cX8_unpair 33 = .ok (.invokespecial 86, 3) := by decide +kernel
theorem dX8_unpair_36 : decode cX8_unpair 36 = .ok (.athrow, 1) := by decide +kernel
theorem dX8_unpair_37 : decode cX8_unpair 37 = .ok (.aload_n 0, 1) := by decide +kernel
theorem dX8_unpair_38 : decode cX8_unpair 38 = .ok (.getfield 24, 3) := by decide +kernel
theorem dX8_unpair_41 : decode cX8_unpair 41 = .ok (.iload_n 1, 1) := by decide +kernel
theorem dX8_unpair_42 : decode cX8_unpair 42 = .ok (.invokevirtual 172, 3) := by decide +kernel
theorem dX8_unpair_45 : decode cX8_unpair 45 = .ok (.aload_n 0, 1) := by decide +kernel
theorem dX8_unpair_46 : decode cX8_unpair 46 = .ok (.getfield 24, 3) := by decide +kernel
theorem dX8_unpair_49 : decode cX8_unpair 49 = .ok (.iload_n 1, 1) := by decide +kernel
theorem dX8_unpair_50 : decode cX8_unpair 50 = .ok (.invokevirtual 161, 3) := by decide +kernel
theorem dX8_unpair_53 : decode cX8_unpair 53 = .ok (.ireturn, 1) := by decide +kernel
theorem dX8_rank_0 : decode cX8_rank 0 = .ok (.aload_n 0, 1) := by decide +kernel
theorem dX8_rank_1 : decode cX8_rank 1 = .ok (.iload_n 1, 1) := by decide +kernel
theorem dX8_rank_2 : decode cX8_rank 2 = .ok (.invokevirtual 140, 3) := by decide +kernel
theorem dX8_rank_5 : decode cX8_rank 5 = .ok (.aload_n 0, 1) := by decide +kernel
theorem dX8_rank_6 : decode cX8_rank 6 = .ok (.getfield 24, 3) := by decide +kernel
theorem dX8_rank_9 : decode cX8_rank 9 = .ok (.iload_n 1, 1) := by decide +kernel
theorem dX8_rank_10 : decode cX8_rank 10 = .ok (.invokevirtual 175, 3) := by decide +kernel
theorem dX8_rank_13 : decode cX8_rank 13 = .ok (.ireturn, 1) := by decide +kernel
theorem dX8_standard_0 : decode cX8_standard 0 = .ok (.iload_n 1, 1) := by decide +kernel
theorem dX8_standard_1 : decode cX8_standard 1 = .ok (.ifCond .lt 9, 3) := by decide +kernel
theorem dX8_standard_4 : decode cX8_standard 4 = .ok (.iload_n 1, 1) := by decide +kernel
theorem dX8_standard_5 : decode cX8_standard 5 = .ok (.bipush 16, 2) := by decide +kernel
theorem dX8_standard_7 : decode cX8_standard 7 = .ok (.if_icmp .lt 13, 3) := by decide +kernel
theorem dX8_standard_10 : decode cX8_standard 10 = .ok (.new 143, 3) := by decide +kernel
theorem dX8_standard_13 : decode cX8_standard 13 = .ok (.dup, 1) := by decide +kernel
theorem dX8_standard_14 : decode cX8_standard 14 = .ok (.ldc 178, 2) := by decide +kernel
theorem dX8_standard_16 : decode cX8_standard 16 = .ok (.invokespecial 147, 3) := by decide +kernel
theorem dX8_standard_19 : decode cX8_standard 19 = .ok (.athrow, 1) := by decide +kernel
theorem dX8_standard_20 : decode cX8_standard 20 = .ok (.aload_n 0, 1) := by decide +kernel
theorem dX8_standard_21 : decode cX8_standard 21 = .ok (.getfield 18, 3) := by decide +kernel
theorem dX8_standard_24 : decode cX8_standard 24 = .ok (.invokevirtual 60, 3) := by decide +kernel
theorem dX8_standard_27 : decode cX8_standard 27 = .ok (.ifCond .eq 21, 3) := by decide +kernel
theorem dX8_standard_30 : decode cX8_standard 30 = .ok (.aload_n 0, 1) := by decide +kernel
theorem dX8_standard_31 : decode cX8_standard 31 = .ok (.getfield 18, 3) := by decide +kernel
theorem dX8_standard_34 : decode cX8_standard 34 = .ok (.iconst 0, 1) := by decide +kernel
theorem dX8_standard_35 : decode cX8_standard 35 = .ok (.invokevirtual 112, 3) := by decide +kernel
theorem dX8_standard_38 : decode cX8_standard 38 = .ok (.aload_n 0, 1) := by decide +kernel
theorem dX8_standard_39 : decode cX8_standard 39 = .ok (.getfield 18, 3) := by decide +kernel
theorem dX8_standard_42 : decode cX8_standard 42 = .ok (.invokevirtual 180, 3) := by decide +kernel
theorem dX8_standard_45 : decode cX8_standard 45 = .ok (.if_icmp .eq 13, 3) := by decide +kernel
theorem dX8_standard_48 : decode cX8_standard 48 = .ok (.new 82, 3) := by decide +kernel
theorem dX8_standard_51 : decode cX8_standard 51 = .ok (.dup, 1) := by decide +kernel
theorem dX8_standard_52 : decode cX8_standard 52 = .ok (.ldc 183, 2) := by decide +kernel
theorem dX8_standard_54 : decode cX8_standard 54 = .ok (.invokespecial 86, 3) := by decide +kernel
theorem dX8_standard_57 : decode cX8_standard 57 = .ok (.athrow, 1) := by decide +kernel
theorem dX8_standard_58 : decode cX8_standard 58 = .ok (.aload_n 0, 1) := by decide +kernel
theorem dX8_standard_59 : decode cX8_standard 59 = .ok (.getfield 24, 3) := by decide +kernel
theorem dX8_standard_62 : decode cX8_standard 62 = .ok (.iload_n 1, 1) := by decide +kernel
theorem dX8_standard_63 : decode cX8_standard 63 = .ok (.invokevirtual 185, 3) := by decide +kernel
theorem dX8_standard_66 : decode cX8_standard 66 = .ok (.istore_n 2, 1) := by decide +kernel
theorem dX8_standard_67 : decode cX8_standard 67 = .ok (.aload_n 0, 1) := by decide +kernel
theorem dX8_standard_68 : decode cX8_standard 68 = .ok (.iload_n 2, 1) := by decide +kernel
theorem dX8_standard_69 : decode cX8_standard 69 = .ok (.invokestatic 106, 3) := by decide +kernel
theorem dX8_standard_72 : decode cX8_standard 72 = .ok (.invokevirtual 136, 3) := by decide +kernel
theorem dX8_standard_75 : decode cX8_standard 75 = .ok (.iconst 0, 1) := by decide +kernel
theorem dX8_standard_76 : decode cX8_standard 76 = .ok (.istore_n 3, 1) := by decide +kernel
theorem dX8_standard_77 : decode cX8_standard 77 = .ok (.iload_n 3, 1) := by decide +kernel
theorem dX8_standard_78 : decode cX8_standard 78 = .ok (.bipush 16, 2) := by decide +kernel
theorem dX8_standard_80 : decode cX8_standard 80 = .ok (.if_icmp .ge 25, 3) := by decide +kernel
theorem dX8_standard_83 : decode cX8_standard 83 = .ok (.iload_n 2, 1) := by decide +kernel
theorem dX8_standard_84 : decode cX8_standard 84 = .ok (.iload_n 3, 1) := by decide +kernel
theorem dX8_standard_85 : decode cX8_standard 85 = .ok (.invokestatic 103, 3) := by decide +kernel
theorem dX8_standard_88 : decode cX8_standard 88 = .ok (.ifCond .eq 11, 3) := by decide +kernel
theorem dX8_standard_91 : decode cX8_standard 91 = .ok (.aload_n 0, 1) := by decide +kernel
theorem dX8_standard_92 : decode cX8_standard 92 = .ok (.getfield 24, 3) := by decide +kernel
theorem dX8_standard_95 : decode cX8_standard 95 = .ok (.iload_n 3, 1) := by decide +kernel
theorem dX8_standard_96 : decode cX8_standard 96 = .ok (.invokevirtual 188, 3) := by decide +kernel
theorem dX8_standard_99 : decode cX8_standard 99 = .ok (.iinc 3 1, 3) := by decide +kernel
theorem dX8_standard_102 : decode cX8_standard 102 = .ok (.goto (-25), 3) := by decide +kernel
theorem dX8_standard_105 : decode cX8_standard 105 = .ok (.aload_n 0, 1) := by decide +kernel
theorem dX8_standard_106 : decode cX8_standard 106 = .ok (.getfield 24, 3) := by decide +kernel
theorem dX8_standard_109 : decode cX8_standard 109 = .ok (.iload_n 1, 1) := by decide +kernel
theorem dX8_standard_110 : decode cX8_standard 110 = .ok (.invokevirtual 191, 3) := by decide +kernel
theorem dX8_standard_113 : decode cX8_standard 113 = .ok (.ireturn, 1) := by decide +kernel
theorem dX8_becomes_0 : decode cX8_becomes 0 = .ok (.aload_n 0, 1) := by decide +kernel
theorem dX8_becomes_1 : decode cX8_becomes 1 = .ok (.iload_n 1, 1) := by decide +kernel
theorem dX8_becomes_2 : decode cX8_becomes 2 = .ok (.invokevirtual 140, 3) := by decide +kernel
theorem dX8_becomes_5 : decode cX8_becomes 5 = .ok (.aload_n 0, 1) := by decide +kernel
theorem dX8_becomes_6 : decode cX8_becomes 6 = .ok (.iload_n 2, 1) := by decide +kernel
theorem dX8_becomes_7 : decode cX8_becomes 7 = .ok (.invokevirtual 133, 3) := by decide +kernel
theorem dX8_becomes_10 : decode cX8_becomes 10 = .ok (.aload_n 0, 1) := by decide +kernel
theorem dX8_becomes_11 : decode cX8_becomes 11 = .ok (.getfield 56, 3) := by decide +kernel
theorem dX8_becomes_14 : decode cX8_becomes 14 = .ok (.iload_n 2, 1) := by decide +kernel
theorem dX8_becomes_15 : decode cX8_becomes 15 = .ok (.iconst 0, 1) := by decide +kernel
theorem dX8_becomes_16 : decode cX8_becomes 16 = .ok (.invokevirtual 194, 3) := by decide +kernel
theorem dX8_becomes_19 : decode cX8_becomes 19 = .ok (.aload_n 0, 1) := by decide +kernel
theorem dX8_becomes_20 : decode cX8_becomes 20 = .ok (.getfield 56, 3) := by decide +kernel
theorem dX8_becomes_23 : decode cX8_becomes 23 = .ok (.iload_n 1, 1) := by decide +kernel
theorem dX8_becomes_24 : decode cX8_becomes 24 = .ok (.invokevirtual 198, 3) := by decide +kernel
theorem dX8_becomes_27 : decode cX8_becomes 27 = .ok (.ireturn, 1) := by decide +kernel
theorem dX8_valueIn_0 : decode cX8_valueIn 0 = .ok (.aload_n 0, 1) := by decide +kernel
theorem dX8_valueIn_1 : decode cX8_valueIn 1 = .ok (.iload_n 1, 1) := by decide +kernel
theorem dX8_valueIn_2 : decode cX8_valueIn 2 = .ok (.invokevirtual 140, 3) := by decide +kernel
theorem dX8_valueIn_5 : decode cX8_valueIn 5 = .ok (.aload_n 0, 1) := by decide +kernel
theorem dX8_valueIn_6 : decode cX8_valueIn 6 = .ok (.iload_n 2, 1) := by decide +kernel
theorem dX8_valueIn_7 : decode cX8_valueIn 7 = .ok (.invokevirtual 140, 3) := by decide +kernel
theorem dX8_valueIn_10 : decode cX8_valueIn 10 = .ok (.aload_n 0, 1) := by decide +kernel
theorem dX8_valueIn_11 : decode cX8_valueIn 11 = .ok (.getfield 37, 3) := by decide +kernel
theorem dX8_valueIn_14 : decode cX8_valueIn 14 = .ok (.iload_n 1, 1) := by decide +kernel
theorem dX8_valueIn_15 : decode cX8_valueIn 15 = .ok (.iload_n 2, 1) := by decide +kernel
theorem dX8_valueIn_16 : decode cX8_valueIn 16 = .ok (.invokevirtual 201, 3) := by decide +kernel
theorem dX8_valueIn_19 : decode cX8_valueIn 19 = .ok (.ireturn, 1) := by decide +kernel
theorem dX8_valueLike_0 : decode cX8_valueLike 0 = .ok (.aload_n 0, 1) := by decide +kernel
theorem dX8_valueLike_1 : decode cX8_valueLike 1 = .ok (.iload_n 1, 1) := by decide +kernel
theorem dX8_valueLike_2 : decode cX8_valueLike 2 = .ok (.invokevirtual 140, 3) := by decide +kernel
theorem dX8_valueLike_5 : decode cX8_valueLike 5 = .ok (.aload_n 0, 1) := by decide +kernel
theorem dX8_valueLike_6 : decode cX8_valueLike 6 = .ok (.iload_n 2, 1) := by decide +kernel
theorem dX8_valueLike_7 : decode cX8_valueLike 7 = .ok (.invokevirtual 140, 3) := by decide +kernel
theorem dX8_valueLike_10 : decode cX8_valueLike 10 = .ok (.aload_n 0, 1) := by decide +kernel
theorem dX8_valueLike_11 : decode cX8_valueLike 11 = .ok (.getfield 37, 3) := by decide +kernel
theorem dX8_valueLike_14 : decode cX8_valueLike 14 = .ok (.iload_n 1, 1) := by decide +kernel
theorem dX8_valueLike_15 : decode cX8_valueLike 15 = .ok (.iload_n 2, 1) := by decide +kernel
theorem dX8_valueLike_16 : decode cX8_valueLike 16 = .ok (.invokevirtual 207, 3) := by decide +kernel
theorem dX8_valueLike_19 : decode cX8_valueLike 19 = .ok (.ireturn, 1) := by decide +kernel
theorem dX8_forcesIn_0 : decode cX8_forcesIn 0 = .ok (.aload_n 0, 1) := by decide +kernel
theorem dX8_forcesIn_1 : decode cX8_forcesIn 1 = .ok (.iload_n 1, 1) := by decide +kernel
theorem dX8_forcesIn_2 : decode cX8_forcesIn 2 = .ok (.invokevirtual 127, 3) := by decide +kernel
theorem dX8_forcesIn_5 : decode cX8_forcesIn 5 = .ok (.aload_n 0, 1) := by decide +kernel
theorem dX8_forcesIn_6 : decode cX8_forcesIn 6 = .ok (.iload_n 2, 1) := by decide +kernel
theorem dX8_forcesIn_7 : decode cX8_forcesIn 7 = .ok (.invokevirtual 140, 3) := by decide +kernel
theorem dX8_forcesIn_10 : decode cX8_forcesIn 10 = .ok (.aload_n 0, 1) := by decide +kernel
theorem dX8_forcesIn_11 : decode cX8_forcesIn 11 = .ok (.iload_n 3, 1) := by decide +kernel
theorem dX8_forcesIn_12 : decode cX8_forcesIn 12 = .ok (.invokevirtual 140, 3) := by decide +kernel
theorem dX8_forcesIn_15 : decode cX8_forcesIn 15 = .ok (.aload_n 0, 1) := by decide +kernel
theorem dX8_forcesIn_16 : decode cX8_forcesIn 16 = .ok (.getfield 44, 3) := by decide +kernel
theorem dX8_forcesIn_19 : decode cX8_forcesIn 19 = .ok (.iload_n 2, 1) := by decide +kernel
theorem dX8_forcesIn_20 : decode cX8_forcesIn 20 = .ok (.iload_n 3, 1) := by decide +kernel
theorem dX8_forcesIn_21 : decode cX8_forcesIn 21 = .ok (.invokevirtual 201, 3) := by decide +kernel
theorem dX8_forcesIn_24 : decode cX8_forcesIn 24 = .ok (.iload_n 1, 1) := by decide +kernel
theorem dX8_forcesIn_25 : decode cX8_forcesIn 25 = .ok (.invokestatic 103, 3) := by decide +kernel
theorem dX8_forcesIn_28 : decode cX8_forcesIn 28 = .ok (.ireturn, 1) := by decide +kernel
theorem dX8_forcesLike_0 : decode cX8_forcesLike 0 = .ok (.aload_n 0, 1) := by decide +kernel
theorem dX8_forcesLike_1 : decode cX8_forcesLike 1 = .ok (.iload_n 1, 1) := by decide +kernel
theorem dX8_forcesLike_2 : decode cX8_forcesLike 2 = .ok (.invokevirtual 127, 3) := by decide +kernel
theorem dX8_forcesLike_5 : decode cX8_forcesLike 5 = .ok (.aload_n 0, 1) := by decide +kernel
theorem dX8_forcesLike_6 : decode cX8_forcesLike 6 = .ok (.iload_n 2, 1) := by decide +kernel
theorem dX8_forcesLike_7 : decode cX8_forcesLike 7 = .ok (.invokevirtual 140, 3) := by decide +kernel
theorem dX8_forcesLike_10 : decode cX8_forcesLike 10 = .ok (.aload_n 0, 1) := by decide +kernel
theorem dX8_forcesLike_11 : decode cX8_forcesLike 11 = .ok (.iload_n 3, 1) := by decide +kernel
theorem dX8_forcesLike_12 : decode cX8_forcesLike 12 = .ok (.invokevirtual 140, 3) := by decide +kernel
theorem dX8_forcesLike_15 : decode cX8_forcesLike 15 = .ok (.aload_n 0, 1) := by decide +kernel
theorem dX8_forcesLike_16 : decode cX8_forcesLike 16 = .ok (.getfield 44, 3) := by decide +kernel
theorem dX8_forcesLike_19 : decode cX8_forcesLike 19 = .ok (.iload_n 2, 1) := by decide +kernel
theorem dX8_forcesLike_20 : decode cX8_forcesLike 20 = .ok (.iload_n 3, 1) := by decide +kernel
theorem dX8_forcesLike_21 : decode cX8_forcesLike 21 = .ok (.invokevirtual 207, 3) := by decide +kernel
theorem dX8_forcesLike_24 : decode cX8_forcesLike 24 = .ok (.iload_n 1, 1) := by decide +kernel
theorem dX8_forcesLike_25 : decode cX8_forcesLike 25 = .ok (.invokestatic 103, 3) := by decide +kernel
theorem dX8_forcesLike_28 : decode cX8_forcesLike 28 = .ok (.ireturn, 1) := by decide +kernel
theorem dX8_mix_0 : decode cX8_mix 0 = .ok (.aload_n 0, 1) := by decide +kernel
theorem dX8_mix_1 : decode cX8_mix 1 = .ok (.iload_n 1, 1) := by decide +kernel
theorem dX8_mix_2 : decode cX8_mix 2 = .ok (.invokevirtual 140, 3) := by decide +kernel
theorem dX8_mix_5 : decode cX8_mix 5 = .ok (.aload_n 0, 1) := by decide +kernel
theorem dX8_mix_6 : decode cX8_mix 6 = .ok (.iload_n 2, 1) := by decide +kernel
theorem dX8_mix_7 : decode cX8_mix 7 = .ok (.invokevirtual 127, 3) := by decide +kernel
theorem dX8_mix_10 : decode cX8_mix 10 = .ok (.aload_n 0, 1) := by decide +kernel
theorem dX8_mix_11 : decode cX8_mix 11 = .ok (.iload_n 3, 1) := by decide +kernel
theorem dX8_mix_12 : decode cX8_mix 12 = .ok (.invokevirtual 140, 3) := by decide +kernel
theorem dX8_mix_15 : decode cX8_mix 15 = .ok (.aload_n 0, 1) := by decide +kernel
theorem dX8_mix_16 : decode cX8_mix 16 = .ok (.iload 4, 2) := by decide +kernel
theorem dX8_mix_18 : decode cX8_mix 18 = .ok (.invokevirtual 127, 3) := by decide +kernel
theorem dX8_mix_21 : decode cX8_mix 21 = .ok (.aload_n 0, 1) := by decide +kernel
theorem dX8_mix_22 : decode cX8_mix 22 = .ok (.getfield 18, 3) := by decide +kernel
theorem dX8_mix_25 : decode cX8_mix 25 = .ok (.iload_n 2, 1) := by decide +kernel
theorem dX8_mix_26 : decode cX8_mix 26 = .ok (.iload 4, 2) := by decide +kernel
theorem dX8_mix_28 : decode cX8_mix 28 = .ok (.invokevirtual 93, 3) := by decide +kernel
theorem dX8_mix_31 : decode cX8_mix 31 = .ok (.ifCond .eq 13, 3) := by decide +kernel
theorem dX8_mix_34 : decode cX8_mix 34 = .ok (.new 82, 3) := by decide +kernel
theorem dX8_mix_37 : decode cX8_mix 37 = .ok (.dup, 1) := by decide +kernel
theorem dX8_mix_38 : decode cX8_mix 38 = .ok (.ldc 210, 2) := by decide +kernel
theorem dX8_mix_40 : decode cX8_mix 40 = .ok (.invokespecial 86, 3) := by decide +kernel
theorem dX8_mix_43 : decode cX8_mix 43 = .ok (.athrow, 1) := by decide +kernel
theorem dX8_mix_44 : decode cX8_mix 44 = .ok (.aload_n 0, 1) := by decide +kernel
theorem dX8_mix_45 : decode cX8_mix 45 = .ok (.getfield 24, 3) := by decide +kernel
theorem dX8_mix_48 : decode cX8_mix 48 = .ok (.iload_n 1, 1) := by decide +kernel
theorem dX8_mix_49 : decode cX8_mix 49 = .ok (.iload_n 2, 1) := by decide +kernel
theorem dX8_mix_50 : decode cX8_mix 50 = .ok (.iload_n 3, 1) := by decide +kernel
theorem dX8_mix_51 : decode cX8_mix 51 = .ok (.iload 4, 2) := by decide +kernel
theorem dX8_mix_53 : decode cX8_mix 53 = .ok (.invokevirtual 212, 3) := by decide +kernel
theorem dX8_mix_56 : decode cX8_mix 56 = .ok (.istore 5, 2) := by decide +kernel
theorem dX8_mix_58 : decode cX8_mix 58 = .ok (.iload 5, 2) := by decide +kernel
theorem dX8_mix_60 : decode cX8_mix 60 = .ok (.iconst 4, 1) := by decide +kernel
theorem dX8_mix_61 : decode cX8_mix 61 = .ok (.if_icmp .le 13, 3) := by decide +kernel
theorem dX8_mix_64 : decode cX8_mix 64 = .ok (.new 82, 3) := by decide +kernel
theorem dX8_mix_67 : decode cX8_mix 67 = .ok (.dup, 1) := by decide +kernel
theorem dX8_mix_68 : decode cX8_mix 68 = .ok (.ldc 216, 2) := by decide +kernel
theorem dX8_mix_70 : decode cX8_mix 70 = .ok (.invokespecial 86, 3) := by decide +kernel
theorem dX8_mix_73 : decode cX8_mix 73 = .ok (.athrow, 1) := by decide +kernel
theorem dX8_mix_74 : decode cX8_mix 74 = .ok (.aload_n 0, 1) := by decide +kernel
theorem dX8_mix_75 : decode cX8_mix 75 = .ok (.iconst 1, 1) := by decide +kernel
theorem dX8_mix_76 : decode cX8_mix 76 = .ok (.invokevirtual 136, 3) := by decide +kernel
theorem dX8_mix_79 : decode cX8_mix 79 = .ok (.aload_n 0, 1) := by decide +kernel
theorem dX8_mix_80 : decode cX8_mix 80 = .ok (.getfield 24, 3) := by decide +kernel
theorem dX8_mix_83 : decode cX8_mix 83 = .ok (.iload 5, 2) := by decide +kernel
theorem dX8_mix_85 : decode cX8_mix 85 = .ok (.invokevirtual 218, 3) := by decide +kernel
theorem dX8_mix_88 : decode cX8_mix 88 = .ok (.ireturn, 1) := by decide +kernel
theorem dX8_atom_0 : decode cX8_atom 0 = .ok (.iload_n 1, 1) := by decide +kernel
theorem dX8_atom_1 : decode cX8_atom 1 = .ok (.bipush 101, 2) := by decide +kernel
theorem dX8_atom_3 : decode cX8_atom 3 = .ok (.if_icmp .eq 19, 3) := by decide +kernel
theorem dX8_atom_6 : decode cX8_atom 6 = .ok (.iload_n 1, 1) := by decide +kernel
theorem dX8_atom_7 : decode cX8_atom 7 = .ok (.bipush 61, 2) := by decide +kernel
theorem dX8_atom_9 : decode cX8_atom 9 = .ok (.if_icmp .eq 13, 3) := by decide +kernel
theorem dX8_atom_12 : decode cX8_atom 12 = .ok (.new 143, 3) := by decide +kernel
theorem dX8_atom_15 : decode cX8_atom 15 = .ok (.dup, 1) := by decide +kernel
theorem dX8_atom_16 : decode cX8_atom 16 = .ok (.ldc 221, 2) := by decide +kernel
theorem dX8_atom_18 : decode cX8_atom 18 = .ok (.invokespecial 147, 3) := by decide +kernel
theorem dX8_atom_21 : decode cX8_atom 21 = .ok (.athrow, 1) := by decide +kernel
theorem dX8_atom_22 : decode cX8_atom 22 = .ok (.aload_n 0, 1) := by decide +kernel
theorem dX8_atom_23 : decode cX8_atom 23 = .ok (.iload_n 2, 1) := by decide +kernel
theorem dX8_atom_24 : decode cX8_atom 24 = .ok (.invokevirtual 223, 3) := by decide +kernel
theorem dX8_atom_27 : decode cX8_atom 27 = .ok (.aload_n 0, 1) := by decide +kernel
theorem dX8_atom_28 : decode cX8_atom 28 = .ok (.iload_n 3, 1) := by decide +kernel
theorem dX8_atom_29 : decode cX8_atom 29 = .ok (.invokevirtual 223, 3) := by decide +kernel
theorem dX8_atom_32 : decode cX8_atom 32 = .ok (.aload_n 0, 1) := by decide +kernel
theorem dX8_atom_33 : decode cX8_atom 33 = .ok (.invokevirtual 226, 3) := by decide +kernel
theorem dX8_atom_36 : decode cX8_atom 36 = .ok (.aload_n 0, 1) := by decide +kernel
theorem dX8_atom_37 : decode cX8_atom 37 = .ok (.getfield 28, 3) := by decide +kernel
theorem dX8_atom_40 : decode cX8_atom 40 = .ok (.iload_n 1, 1) := by decide +kernel
theorem dX8_atom_41 : decode cX8_atom 41 = .ok (.iload_n 2, 1) := by decide +kernel
theorem dX8_atom_42 : decode cX8_atom 42 = .ok (.iload_n 3, 1) := by decide +kernel
theorem dX8_atom_43 : decode cX8_atom 43 = .ok (.iconst (-1), 1) := by decide +kernel
theorem dX8_atom_44 : decode cX8_atom 44 = .ok (.iconst 1, 1) := by decide +kernel
theorem dX8_atom_45 : decode cX8_atom 45 = .ok (.iload_n 2, 1) := by decide +kernel
theorem dX8_atom_46 : decode cX8_atom 46 = .ok (.invokestatic 229, 3) := by decide +kernel
theorem dX8_atom_49 : decode cX8_atom 49 = .ok (.iload_n 3, 1) := by decide +kernel
theorem dX8_atom_50 : decode cX8_atom 50 = .ok (.invokestatic 229, 3) := by decide +kernel
theorem dX8_atom_53 : decode cX8_atom 53 = .ok (.ior, 1) := by decide +kernel
theorem dX8_atom_54 : decode cX8_atom 54 = .ok (.invokevirtual 232, 3) := by decide +kernel
theorem dX8_atom_57 : decode cX8_atom 57 = .ok (.ireturn, 1) := by decide +kernel
theorem dX8_both_0 : decode cX8_both 0 = .ok (.aload_n 0, 1) := by decide +kernel
theorem dX8_both_1 : decode cX8_both 1 = .ok (.iload_n 2, 1) := by decide +kernel
theorem dX8_both_2 : decode cX8_both 2 = .ok (.invokevirtual 235, 3) := by decide +kernel
theorem dX8_both_5 : decode cX8_both 5 = .ok (.aload_n 0, 1) := by decide +kernel
theorem dX8_both_6 : decode cX8_both 6 = .ok (.iload_n 3, 1) := by decide +kernel
theorem dX8_both_7 : decode cX8_both 7 = .ok (.invokevirtual 235, 3) := by decide +kernel
theorem dX8_both_10 : decode cX8_both 10 = .ok (.iload_n 1, 1) := by decide +kernel
theorem dX8_both_11 : decode cX8_both 11 = .ok (.bipush 97, 2) := by decide +kernel
theorem dX8_both_13 : decode cX8_both 13 = .ok (.if_icmp .eq 19, 3) := by decide +kernel
theorem dX8_both_16 : decode cX8_both 16 = .ok (.iload_n 1, 1) := by decide +kernel
theorem dX8_both_17 : decode cX8_both 17 = .ok (.bipush 111, 2) := by decide +kernel
theorem dX8_both_19 : decode cX8_both 19 = .ok (.if_icmp .eq 13, 3) := by decide +kernel
theorem dX8_both_22 : decode cX8_both 22 = .ok (.new 143, 3) := by decide +kernel
theorem dX8_both_25 : decode cX8_both 25 = .ok (.dup, 1) := by decide +kernel
theorem dX8_both_26 : decode cX8_both 26 = .ok (.ldc 221, 2) := by decide +kernel
theorem dX8_both_28 : decode cX8_both 28 = .ok (.invokespecial 147, 3) := by decide +kernel
theorem dX8_both_31 : decode cX8_both 31 = .ok (.athrow, 1) := by decide +kernel
theorem dX8_both_32 : decode cX8_both 32 = .ok (.iconst 1, 1) := by decide +kernel
theorem dX8_both_33 : decode cX8_both 33 = .ok (.aload_n 0, 1) := by decide +kernel
theorem dX8_both_34 : decode cX8_both 34 = .ok (.getfield 28, 3) := by decide +kernel
theorem dX8_both_37 : decode cX8_both 37 = .ok (.iload_n 2, 1) := by decide +kernel
theorem dX8_both_38 : decode cX8_both 38 = .ok (.invokevirtual 238, 3) := by decide +kernel
theorem dX8_both_41 : decode cX8_both 41 = .ok (.aload_n 0, 1) := by decide +kernel
theorem dX8_both_42 : decode cX8_both 42 = .ok (.getfield 28, 3) := by decide +kernel
theorem dX8_both_45 : decode cX8_both 45 = .ok (.iload_n 3, 1) := by decide +kernel
theorem dX8_both_46 : decode cX8_both 46 = .ok (.invokevirtual 238, 3) := by decide +kernel
theorem dX8_both_49 : decode cX8_both 49 = .ok (.invokestatic 241, 3) := by decide +kernel
theorem dX8_both_52 : decode cX8_both 52 = .ok (.iadd, 1) := by decide +kernel
theorem dX8_both_53 : decode cX8_both 53 = .ok (.istore 4, 2) := by decide +kernel
theorem dX8_both_55 : decode cX8_both 55 = .ok (.iload 4, 2) := by decide +kernel
theorem dX8_both_57 : decode cX8_both 57 = .ok (.invokestatic 246, 3) := by decide +kernel
theorem dX8_both_60 : decode cX8_both 60 = .ok (.aload_n 0, 1) := by decide +kernel
theorem dX8_both_61 : decode cX8_both 61 = .ok (.invokevirtual 226, 3) := by decide +kernel
theorem dX8_both_64 : decode cX8_both 64 = .ok (.aload_n 0, 1) := by decide +kernel
theorem dX8_both_65 : decode cX8_both 65 = .ok (.getfield 28, 3) := by decide +kernel
theorem dX8_both_68 : decode cX8_both 68 = .ok (.iload_n 2, 1) := by decide +kernel
theorem dX8_both_69 : decode cX8_both 69 = .ok (.invokevirtual 249, 3) := by decide +kernel
theorem dX8_both_72 : decode cX8_both 72 = .ok (.aload_n 0, 1) := by decide +kernel
theorem dX8_both_73 : decode cX8_both 73 = .ok (.getfield 28, 3) := by decide +kernel
theorem dX8_both_76 : decode cX8_both 76 = .ok (.iload_n 3, 1) := by decide +kernel
theorem dX8_both_77 : decode cX8_both 77 = .ok (.invokevirtual 249, 3) := by decide +kernel
theorem dX8_both_80 : decode cX8_both 80 = .ok (.ior, 1) := by decide +kernel
theorem dX8_both_81 : decode cX8_both 81 = .ok (.istore 5, 2) := by decide +kernel
theorem dX8_both_83 : decode cX8_both 83 = .ok (.aload_n 0, 1) := by decide +kernel
theorem dX8_both_84 : decode cX8_both 84 = .ok (.getfield 28, 3) := by decide +kernel
theorem dX8_both_87 : decode cX8_both 87 = .ok (.iload_n 1, 1) := by decide +kernel
theorem dX8_both_88 : decode cX8_both 88 = .ok (.iload_n 2, 1) := by decide +kernel
theorem dX8_both_89 : decode cX8_both 89 = .ok (.iload_n 3, 1) := by decide +kernel
theorem dX8_both_90 : decode cX8_both 90 = .ok (.iconst (-1), 1) := by decide +kernel
theorem dX8_both_91 : decode cX8_both 91 = .ok (.iload 4, 2) := by decide +kernel
theorem dX8_both_93 : decode cX8_both 93 = .ok (.iload 5, 2) := by decide +kernel
theorem dX8_both_95 : decode cX8_both 95 = .ok (.invokevirtual 232, 3) := by decide +kernel
theorem dX8_both_98 : decode cX8_both 98 = .ok (.ireturn, 1) := by decide +kernel
theorem dX8_not_0 : decode cX8_not 0 = .ok (.aload_n 0, 1) := by decide +kernel
theorem dX8_not_1 : decode cX8_not 1 = .ok (.iload_n 1, 1) := by decide +kernel
theorem dX8_not_2 : decode cX8_not 2 = .ok (.invokevirtual 235, 3) := by decide +kernel
theorem dX8_not_5 : decode cX8_not 5 = .ok (.iconst 1, 1) := by decide +kernel
theorem dX8_not_6 : decode cX8_not 6 = .ok (.aload_n 0, 1) := by decide +kernel
theorem dX8_not_7 : decode cX8_not 7 = .ok (.getfield 28, 3) := by decide +kernel
theorem dX8_not_10 : decode cX8_not 10 = .ok (.iload_n 1, 1) := by decide +kernel
theorem dX8_not_11 : decode cX8_not 11 = .ok (.invokevirtual 238, 3) := by decide +kernel
theorem dX8_not_14 : decode cX8_not 14 = .ok (.iadd, 1) := by decide +kernel
theorem dX8_not_15 : decode cX8_not 15 = .ok (.istore_n 2, 1) := by decide +kernel
theorem dX8_not_16 : decode cX8_not 16 = .ok (.iload_n 2, 1) := by decide +kernel
theorem dX8_not_17 : decode cX8_not 17 = .ok (.invokestatic 246, 3) := by decide +kernel
theorem dX8_not_20 : decode cX8_not 20 = .ok (.aload_n 0, 1) := by decide +kernel
theorem dX8_not_21 : decode cX8_not 21 = .ok (.invokevirtual 226, 3) := by decide +kernel
theorem dX8_not_24 : decode cX8_not 24 = .ok (.aload_n 0, 1) := by decide +kernel
theorem dX8_not_25 : decode cX8_not 25 = .ok (.getfield 28, 3) := by decide +kernel
theorem dX8_not_28 : decode cX8_not 28 = .ok (.bipush 110, 2) := by decide +kernel
theorem dX8_not_30 : decode cX8_not 30 = .ok (.iload_n 1, 1) := by decide +kernel
theorem dX8_not_31 : decode cX8_not 31 = .ok (.iconst (-1), 1) := by decide +kernel
theorem dX8_not_32 : decode cX8_not 32 = .ok (.iconst (-1), 1) := by decide +kernel
theorem dX8_not_33 : decode cX8_not 33 = .ok (.iload_n 2, 1) := by decide +kernel
theorem dX8_not_34 : decode cX8_not 34 = .ok (.aload_n 0, 1) := by decide +kernel
theorem dX8_not_35 : decode cX8_not 35 = .ok (.getfield 28, 3) := by decide +kernel
theorem dX8_not_38 : decode cX8_not 38 = .ok (.iload_n 1, 1) := by decide +kernel
theorem dX8_not_39 : decode cX8_not 39 = .ok (.invokevirtual 249, 3) := by decide +kernel
theorem dX8_not_42 : decode cX8_not 42 = .ok (.invokevirtual 232, 3) := by decide +kernel
theorem dX8_not_45 : decode cX8_not 45 = .ok (.ireturn, 1) := by decide +kernel
theorem dX8_bind_0 : decode cX8_bind 0 = .ok (.aload_n 0, 1) := by decide +kernel
theorem dX8_bind_1 : decode cX8_bind 1 = .ok (.iload 4, 2) := by decide +kernel
theorem dX8_bind_3 : decode cX8_bind 3 = .ok (.invokevirtual 235, 3) := by decide +kernel
theorem dX8_bind_6 : decode cX8_bind 6 = .ok (.iload_n 1, 1) := by decide +kernel
theorem dX8_bind_7 : decode cX8_bind 7 = .ok (.bipush 65, 2) := by decide +kernel
theorem dX8_bind_9 : decode cX8_bind 9 = .ok (.if_icmp .eq 19, 3) := by decide +kernel
theorem dX8_bind_12 : decode cX8_bind 12 = .ok (.iload_n 1, 1) := by decide +kernel
theorem dX8_bind_13 : decode cX8_bind 13 = .ok (.bipush 69, 2) := by decide +kernel
theorem dX8_bind_15 : decode cX8_bind 15 = .ok (.if_icmp .eq 13, 3) := by decide +kernel
theorem dX8_bind_18 : decode cX8_bind 18 = .ok (.new 143, 3) := by decide +kernel
theorem dX8_bind_21 : decode cX8_bind 21 = .ok (.dup, 1) := by decide +kernel
theorem dX8_bind_22 : decode cX8_bind 22 = .ok (.ldc 221, 2) := by decide +kernel
theorem dX8_bind_24 : decode cX8_bind 24 = .ok (.invokespecial 147, 3) := by decide +kernel
theorem dX8_bind_27 : decode cX8_bind 27 = .ok (.athrow, 1) := by decide +kernel
theorem dX8_bind_28 : decode cX8_bind 28 = .ok (.iload_n 2, 1) := by decide +kernel
theorem dX8_bind_29 : decode cX8_bind 29 = .ok (.ifCond .lt 8, 3) := by decide +kernel
theorem dX8_bind_32 : decode cX8_bind 32 = .ok (.iload_n 2, 1) := by decide +kernel
theorem dX8_bind_33 : decode cX8_bind 33 = .ok (.iconst 4, 1) := by decide +kernel
theorem dX8_bind_34 : decode cX8_bind 34 = .ok (.if_icmp .lt 13, 3) := by decide +kernel
theorem dX8_bind_37 : decode cX8_bind 37 = .ok (.new 143, 3) := by decide +kernel
theorem dX8_bind_40 : decode cX8_bind 40 = .ok (.dup, 1) := by decide +kernel
theorem dX8_bind_41 : decode cX8_bind 41 = .ok (.ldc 252, 2) := by decide +kernel
theorem dX8_bind_43 : decode cX8_bind 43 = .ok (.invokespecial 147, 3) := by decide +kernel
theorem dX8_bind_46 : decode cX8_bind 46 = .ok (.athrow, 1) := by decide +kernel
theorem dX8_bind_47 : decode cX8_bind 47 = .ok (.aload_n 0, 1) := by decide +kernel
theorem dX8_bind_48 : decode cX8_bind 48 = .ok (.iload_n 3, 1) := by decide +kernel
theorem dX8_bind_49 : decode cX8_bind 49 = .ok (.invokevirtual 223, 3) := by decide +kernel
theorem dX8_bind_52 : decode cX8_bind 52 = .ok (.iconst 1, 1) := by decide +kernel
theorem dX8_bind_53 : decode cX8_bind 53 = .ok (.aload_n 0, 1) := by decide +kernel
theorem dX8_bind_54 : decode cX8_bind 54 = .ok (.getfield 28, 3) := by decide +kernel
theorem dX8_bind_57 : decode cX8_bind 57 = .ok (.iload 4, 2) := by decide +kernel
theorem dX8_bind_59 : decode cX8_bind 59 = .ok (.invokevirtual 238, 3) := by decide +kernel
theorem dX8_bind_62 : decode cX8_bind 62 = .ok (.iadd, 1) := by decide +kernel
theorem dX8_bind_63 : decode cX8_bind 63 = .ok (.istore 5, 2) := by decide +kernel
theorem dX8_bind_65 : decode cX8_bind 65 = .ok (.iload 5, 2) := by decide +kernel
theorem dX8_bind_67 : decode cX8_bind 67 = .ok (.invokestatic 246, 3) := by decide +kernel
theorem dX8_bind_70 : decode cX8_bind 70 = .ok (.aload_n 0, 1) := by decide +kernel
theorem dX8_bind_71 : decode cX8_bind 71 = .ok (.invokevirtual 226, 3) := by decide +kernel
theorem dX8_bind_74 : decode cX8_bind 74 = .ok (.aload_n 0, 1) := by decide +kernel
theorem dX8_bind_75 : decode cX8_bind 75 = .ok (.getfield 28, 3) := by decide +kernel
theorem dX8_bind_78 : decode cX8_bind 78 = .ok (.iload 4, 2) := by decide +kernel
theorem dX8_bind_80 : decode cX8_bind 80 = .ok (.invokevirtual 249, 3) := by decide +kernel
theorem dX8_bind_83 : decode cX8_bind 83 = .ok (.iconst 1, 1) := by decide +kernel
theorem dX8_bind_84 : decode cX8_bind 84 = .ok (.iload_n 2, 1) := by decide +kernel
theorem dX8_bind_85 : decode cX8_bind 85 = .ok (.ishl, 1) := by decide +kernel
theorem dX8_bind_86 : decode cX8_bind 86 = .ok (.iconst (-1), 1) := by decide +kernel
theorem dX8_bind_87 : decode cX8_bind 87 = .ok (.ixor, 1) := by decide +kernel
theorem dX8_bind_88 : decode cX8_bind 88 = .ok (.iand, 1) := by decide +kernel
theorem dX8_bind_89 : decode cX8_bind 89 = .ok (.iload_n 3, 1) := by decide +kernel
theorem dX8_bind_90 : decode cX8_bind 90 = .ok (.invokestatic 229, 3) := by decide +kernel
theorem dX8_bind_93 : decode cX8_bind 93 = .ok (.ior, 1) := by decide +kernel
theorem dX8_bind_94 : decode cX8_bind 94 = .ok (.istore 6, 2) := by decide +kernel
theorem dX8_bind_96 : decode cX8_bind 96 = .ok (.aload_n 0, 1) := by decide +kernel
theorem dX8_bind_97 : decode cX8_bind 97 = .ok (.getfield 28, 3) := by decide +kernel
theorem dX8_bind_100 : decode cX8_bind 100 = .ok (.iload_n 1, 1) := by decide +kernel
theorem dX8_bind_101 : decode cX8_bind 101 = .ok (.iload_n 3, 1) := by decide +kernel
theorem dX8_bind_102 : decode cX8_bind 102 = .ok (.iload 4, 2) := by decide +kernel
theorem dX8_bind_104 : decode cX8_bind 104 = .ok (.iload_n 2, 1) := by decide +kernel
theorem dX8_bind_105 : decode cX8_bind 105 = .ok (.iload 5, 2) := by decide +kernel
theorem dX8_bind_107 : decode cX8_bind 107 = .ok (.iload 6, 2) := by decide +kernel
theorem dX8_bind_109 : decode cX8_bind 109 = .ok (.invokevirtual 232, 3) := by decide +kernel
theorem dX8_bind_112 : decode cX8_bind 112 = .ok (.ireturn, 1) := by decide +kernel
theorem dX8_free_0 : decode cX8_free 0 = .ok (.aload_n 0, 1) := by decide +kernel
theorem dX8_free_1 : decode cX8_free 1 = .ok (.iload_n 1, 1) := by decide +kernel
theorem dX8_free_2 : decode cX8_free 2 = .ok (.invokevirtual 235, 3) := by decide +kernel
theorem dX8_free_5 : decode cX8_free 5 = .ok (.aload_n 0, 1) := by decide +kernel
theorem dX8_free_6 : decode cX8_free 6 = .ok (.getfield 28, 3) := by decide +kernel
theorem dX8_free_9 : decode cX8_free 9 = .ok (.iload_n 1, 1) := by decide +kernel
theorem dX8_free_10 : decode cX8_free 10 = .ok (.invokevirtual 249, 3) := by decide +kernel
theorem dX8_free_13 : decode cX8_free 13 = .ok (.ireturn, 1) := by decide +kernel
theorem dX8_value_0 : decode cX8_value 0 = .ok (.aload_n 0, 1) := by decide +kernel
theorem dX8_value_1 : decode cX8_value 1 = .ok (.iload_n 1, 1) := by decide +kernel
theorem dX8_value_2 : decode cX8_value 2 = .ok (.invokevirtual 254, 3) := by decide +kernel
theorem dX8_value_5 : decode cX8_value 5 = .ok (.aload_n 0, 1) := by decide +kernel
theorem dX8_value_6 : decode cX8_value 6 = .ok (.getfield 37, 3) := by decide +kernel
theorem dX8_value_9 : decode cX8_value 9 = .ok (.iload_n 1, 1) := by decide +kernel
theorem dX8_value_10 : decode cX8_value 10 = .ok (.invokevirtual 257, 3) := by decide +kernel
theorem dX8_value_13 : decode cX8_value 13 = .ok (.ireturn, 1) := by decide +kernel
theorem dX8_forces_0 : decode cX8_forces 0 = .ok (.aload_n 0, 1) := by decide +kernel
theorem dX8_forces_1 : decode cX8_forces 1 = .ok (.iload_n 1, 1) := by decide +kernel
theorem dX8_forces_2 : decode cX8_forces 2 = .ok (.invokevirtual 127, 3) := by decide +kernel
theorem dX8_forces_5 : decode cX8_forces 5 = .ok (.aload_n 0, 1) := by decide +kernel
theorem dX8_forces_6 : decode cX8_forces 6 = .ok (.iload_n 2, 1) := by decide +kernel
theorem dX8_forces_7 : decode cX8_forces 7 = .ok (.invokevirtual 254, 3) := by decide +kernel
theorem dX8_forces_10 : decode cX8_forces 10 = .ok (.aload_n 0, 1) := by decide +kernel
theorem dX8_forces_11 : decode cX8_forces 11 = .ok (.getfield 44, 3) := by decide +kernel
theorem dX8_forces_14 : decode cX8_forces 14 = .ok (.iload_n 2, 1) := by decide +kernel
theorem dX8_forces_15 : decode cX8_forces 15 = .ok (.invokevirtual 257, 3) := by decide +kernel
theorem dX8_forces_18 : decode cX8_forces 18 = .ok (.iload_n 1, 1) := by decide +kernel
theorem dX8_forces_19 : decode cX8_forces 19 = .ok (.invokestatic 103, 3) := by decide +kernel
theorem dX8_forces_22 : decode cX8_forces 22 = .ok (.ireturn, 1) := by decide +kernel
theorem dX8_weakly_0 : decode cX8_weakly 0 = .ok (.aload_n 0, 1) := by decide +kernel
theorem dX8_weakly_1 : decode cX8_weakly 1 = .ok (.iload_n 1, 1) := by decide +kernel
theorem dX8_weakly_2 : decode cX8_weakly 2 = .ok (.invokevirtual 127, 3) := by decide +kernel
theorem dX8_weakly_5 : decode cX8_weakly 5 = .ok (.aload_n 0, 1) := by decide +kernel
theorem dX8_weakly_6 : decode cX8_weakly 6 = .ok (.iload_n 2, 1) := by decide +kernel
theorem dX8_weakly_7 : decode cX8_weakly 7 = .ok (.invokevirtual 254, 3) := by decide +kernel
theorem dX8_weakly_10 : decode cX8_weakly 10 = .ok (.aload_n 0, 1) := by decide +kernel
theorem dX8_weakly_11 : decode cX8_weakly 11 = .ok (.getfield 50, 3) := by decide +kernel
theorem dX8_weakly_14 : decode cX8_weakly 14 = .ok (.iload_n 2, 1) := by decide +kernel
theorem dX8_weakly_15 : decode cX8_weakly 15 = .ok (.invokevirtual 257, 3) := by decide +kernel
theorem dX8_weakly_18 : decode cX8_weakly 18 = .ok (.iload_n 1, 1) := by decide +kernel
theorem dX8_weakly_19 : decode cX8_weakly 19 = .ok (.invokestatic 103, 3) := by decide +kernel
theorem dX8_weakly_22 : decode cX8_weakly 22 = .ok (.ireturn, 1) := by decide +kernel
theorem dX8_holds_0 : decode cX8_holds 0 = .ok (.aload_n 0, 1) := by decide +kernel
theorem dX8_holds_1 : decode cX8_holds 1 = .ok (.iload_n 1, 1) := by decide +kernel
theorem dX8_holds_2 : decode cX8_holds 2 = .ok (.invokevirtual 254, 3) := by decide +kernel
theorem dX8_holds_5 : decode cX8_holds 5 = .ok (.aload_n 0, 1) := by decide +kernel
theorem dX8_holds_6 : decode cX8_holds 6 = .ok (.iload_n 2, 1) := by decide +kernel
theorem dX8_holds_7 : decode cX8_holds 7 = .ok (.invokevirtual 133, 3) := by decide +kernel
theorem dX8_holds_10 : decode cX8_holds 10 = .ok (.aload_n 0, 1) := by decide +kernel
theorem dX8_holds_11 : decode cX8_holds 11 = .ok (.getfield 56, 3) := by decide +kernel
theorem dX8_holds_14 : decode cX8_holds 14 = .ok (.iload_n 2, 1) := by decide +kernel
theorem dX8_holds_15 : decode cX8_holds 15 = .ok (.iconst 0, 1) := by decide +kernel
theorem dX8_holds_16 : decode cX8_holds 16 = .ok (.invokevirtual 194, 3) := by decide +kernel
theorem dX8_holds_19 : decode cX8_holds 19 = .ok (.aload_n 0, 1) := by decide +kernel
theorem dX8_holds_20 : decode cX8_holds 20 = .ok (.getfield 56, 3) := by decide +kernel
theorem dX8_holds_23 : decode cX8_holds 23 = .ok (.iload_n 1, 1) := by decide +kernel
theorem dX8_holds_24 : decode cX8_holds 24 = .ok (.invokevirtual 260, 3) := by decide +kernel
theorem dX8_holds_27 : decode cX8_holds 27 = .ok (.ireturn, 1) := by decide +kernel
theorem dX8_against_0 : decode cX8_against 0 = .ok (.aload_n 0, 1) := by decide +kernel
theorem dX8_against_1 : decode cX8_against 1 = .ok (.iload_n 1, 1) := by decide +kernel
theorem dX8_against_2 : decode cX8_against 2 = .ok (.invokevirtual 254, 3) := by decide +kernel
theorem dX8_against_5 : decode cX8_against 5 = .ok (.aload_n 0, 1) := by decide +kernel
theorem dX8_against_6 : decode cX8_against 6 = .ok (.getfield 18, 3) := by decide +kernel
theorem dX8_against_9 : decode cX8_against 9 = .ok (.invokevirtual 96, 3) := by decide +kernel
theorem dX8_against_12 : decode cX8_against 12 = .ok (.aload_n 0, 1) := by decide +kernel
theorem dX8_against_13 : decode cX8_against 13 = .ok (.getfield 56, 3) := by decide +kernel
theorem dX8_against_16 : decode cX8_against 16 = .ok (.iload_n 1, 1) := by decide +kernel
theorem dX8_against_17 : decode cX8_against 17 = .ok (.invokevirtual 263, 3) := by decide +kernel
theorem dX8_against_20 : decode cX8_against 20 = .ok (.iconst (-1), 1) := by decide +kernel
theorem dX8_against_21 : decode cX8_against 21 = .ok (.ixor, 1) := by decide +kernel
theorem dX8_against_22 : decode cX8_against 22 = .ok (.iand, 1) := by decide +kernel
theorem dX8_against_23 : decode cX8_against 23 = .ok (.istore_n 2, 1) := by decide +kernel
theorem dX8_against_24 : decode cX8_against 24 = .ok (.iconst 0, 1) := by decide +kernel
theorem dX8_against_25 : decode cX8_against 25 = .ok (.istore_n 3, 1) := by decide +kernel
theorem dX8_against_26 : decode cX8_against 26 = .ok (.iload_n 3, 1) := by decide +kernel
theorem dX8_against_27 : decode cX8_against 27 = .ok (.aload_n 0, 1) := by decide +kernel
theorem dX8_against_28 : decode cX8_against 28 = .ok (.getfield 18, 3) := by decide +kernel
theorem dX8_against_31 : decode cX8_against 31 = .ok (.invokevirtual 60, 3) := by decide +kernel
theorem dX8_against_34 : decode cX8_against 34 = .ok (.if_icmp .ge 19, 3) := by decide +kernel
theorem dX8_against_37 : decode cX8_against 37 = .ok (.iload_n 2, 1) := by decide +kernel
theorem dX8_against_38 : decode cX8_against 38 = .ok (.iload_n 3, 1) := by decide +kernel
theorem dX8_against_39 : decode cX8_against 39 = .ok (.invokestatic 103, 3) := by decide +kernel
theorem dX8_against_42 : decode cX8_against 42 = .ok (.ifCond .eq 5, 3) := by decide +kernel
theorem dX8_against_45 : decode cX8_against 45 = .ok (.iload_n 3, 1) := by decide +kernel
theorem dX8_against_46 : decode cX8_against 46 = .ok (.ireturn, 1) := by decide +kernel
theorem dX8_against_47 : decode cX8_against 47 = .ok (.iinc 3 1, 3) := by decide +kernel
theorem dX8_against_50 : decode cX8_against 50 = .ok (.goto (-24), 3) := by decide +kernel
theorem dX8_against_53 : decode cX8_against 53 = .ok (.new 266, 3) := by decide +kernel
theorem dX8_against_56 : decode cX8_against 56 = .ok (.dup, 1) := by decide +kernel
theorem dX8_against_57 : decode cX8_against 57 = .ok (.ldc_w 268, 3) := by decide +kernel
theorem dX8_against_60 : decode cX8_against 60 = .ok (.invokespecial 270, 3) := by decide +kernel
theorem dX8_against_63 : decode cX8_against 63 = .ok (.athrow, 1) := by decide +kernel
theorem dX8_swap_0 : decode cX8_swap 0 = .ok (.aload_n 0, 1) := by decide +kernel
theorem dX8_swap_1 : decode cX8_swap 1 = .ok (.iload_n 1, 1) := by decide +kernel
theorem dX8_swap_2 : decode cX8_swap 2 = .ok (.iload_n 2, 1) := by decide +kernel
theorem dX8_swap_3 : decode cX8_swap 3 = .ok (.invokevirtual 74, 3) := by decide +kernel
theorem dX8_swap_6 : decode cX8_swap 6 = .ok (.aload_n 0, 1) := by decide +kernel
theorem dX8_swap_7 : decode cX8_swap 7 = .ok (.getfield 18, 3) := by decide +kernel
theorem dX8_swap_10 : decode cX8_swap 10 = .ok (.iload_n 1, 1) := by decide +kernel
theorem dX8_swap_11 : decode cX8_swap 11 = .ok (.iload_n 2, 1) := by decide +kernel
theorem dX8_swap_12 : decode cX8_swap 12 = .ok (.invokevirtual 271, 3) := by decide +kernel
theorem dX8_swap_15 : decode cX8_swap 15 = .ok (.aload_n 0, 1) := by decide +kernel
theorem dX8_swap_16 : decode cX8_swap 16 = .ok (.getfield 18, 3) := by decide +kernel
theorem dX8_swap_19 : decode cX8_swap 19 = .ok (.invokevirtual 274, 3) := by decide +kernel
theorem dX8_swap_22 : decode cX8_swap 22 = .ok (.ireturn, 1) := by decide +kernel
theorem dX8_goes_0 : decode cX8_goes 0 = .ok (.aload_n 0, 1) := by decide +kernel
theorem dX8_goes_1 : decode cX8_goes 1 = .ok (.iload_n 1, 1) := by decide +kernel
theorem dX8_goes_2 : decode cX8_goes 2 = .ok (.invokevirtual 127, 3) := by decide +kernel
theorem dX8_goes_5 : decode cX8_goes 5 = .ok (.aload_n 0, 1) := by decide +kernel
theorem dX8_goes_6 : decode cX8_goes 6 = .ok (.getfield 18, 3) := by decide +kernel
theorem dX8_goes_9 : decode cX8_goes 9 = .ok (.iload_n 1, 1) := by decide +kernel
theorem dX8_goes_10 : decode cX8_goes 10 = .ok (.invokevirtual 278, 3) := by decide +kernel
theorem dX8_goes_13 : decode cX8_goes 13 = .ok (.ireturn, 1) := by decide +kernel
theorem dX8_isFixed_0 : decode cX8_isFixed 0 = .ok (.aload_n 0, 1) := by decide +kernel
theorem dX8_isFixed_1 : decode cX8_isFixed 1 = .ok (.iload_n 1, 1) := by decide +kernel
theorem dX8_isFixed_2 : decode cX8_isFixed 2 = .ok (.invokevirtual 140, 3) := by decide +kernel
theorem dX8_isFixed_5 : decode cX8_isFixed 5 = .ok (.aload_n 0, 1) := by decide +kernel
theorem dX8_isFixed_6 : decode cX8_isFixed 6 = .ok (.getfield 18, 3) := by decide +kernel
theorem dX8_isFixed_9 : decode cX8_isFixed 9 = .ok (.invokevirtual 274, 3) := by decide +kernel
theorem dX8_isFixed_12 : decode cX8_isFixed 12 = .ok (.ifCond .ne 14, 3) := by decide +kernel
theorem dX8_isFixed_15 : decode cX8_isFixed 15 = .ok (.new 82, 3) := by decide +kernel
theorem dX8_isFixed_18 : decode cX8_isFixed 18 = .ok (.dup, 1) := by decide +kernel
theorem dX8_isFixed_19 : decode cX8_isFixed 19 = .ok (.ldc_w 281, 3) := by decide +kernel
theorem dX8_isFixed_22 : decode cX8_isFixed 22 = .ok (.invokespecial 86, 3) := by decide +kernel
theorem dX8_isFixed_25 : decode cX8_isFixed 25 = .ok (.athrow, 1) := by decide +kernel
theorem dX8_isFixed_26 : decode cX8_isFixed 26 = .ok (.aload_n 0, 1) := by decide +kernel
theorem dX8_isFixed_27 : decode cX8_isFixed 27 = .ok (.getfield 18, 3) := by decide +kernel
theorem dX8_isFixed_30 : decode cX8_isFixed 30 = .ok (.invokevirtual 96, 3) := by decide +kernel
theorem dX8_isFixed_33 : decode cX8_isFixed 33 = .ok (.istore_n 2, 1) := by decide +kernel
theorem dX8_isFixed_34 : decode cX8_isFixed 34 = .ok (.iconst 0, 1) := by decide +kernel
theorem dX8_isFixed_35 : decode cX8_isFixed 35 = .ok (.istore_n 3, 1) := by decide +kernel
theorem dX8_isFixed_36 : decode cX8_isFixed 36 = .ok (.iload_n 3, 1) := by decide +kernel
theorem dX8_isFixed_37 : decode cX8_isFixed 37 = .ok (.aload_n 0, 1) := by decide +kernel
theorem dX8_isFixed_38 : decode cX8_isFixed 38 = .ok (.getfield 18, 3) := by decide +kernel
theorem dX8_isFixed_41 : decode cX8_isFixed 41 = .ok (.invokevirtual 60, 3) := by decide +kernel
theorem dX8_isFixed_44 : decode cX8_isFixed 44 = .ok (.if_icmp .ge 60, 3) := by decide +kernel
theorem dX8_isFixed_47 : decode cX8_isFixed 47 = .ok (.iload_n 2, 1) := by decide +kernel
theorem dX8_isFixed_48 : decode cX8_isFixed 48 = .ok (.iload_n 3, 1) := by decide +kernel
theorem dX8_isFixed_49 : decode cX8_isFixed 49 = .ok (.invokestatic 103, 3) := by decide +kernel
theorem dX8_isFixed_52 : decode cX8_isFixed 52 = .ok (.ifCond .eq 46, 3) := by decide +kernel
theorem dX8_isFixed_55 : decode cX8_isFixed 55 = .ok (.aload_n 0, 1) := by decide +kernel
theorem dX8_isFixed_56 : decode cX8_isFixed 56 = .ok (.getfield 56, 3) := by decide +kernel
theorem dX8_isFixed_59 : decode cX8_isFixed 59 = .ok (.iload_n 3, 1) := by decide +kernel
theorem dX8_isFixed_60 : decode cX8_isFixed 60 = .ok (.iconst 0, 1) := by decide +kernel
theorem dX8_isFixed_61 : decode cX8_isFixed 61 = .ok (.invokevirtual 194, 3) := by decide +kernel
theorem dX8_isFixed_64 : decode cX8_isFixed 64 = .ok (.aload_n 0, 1) := by decide +kernel
theorem dX8_isFixed_65 : decode cX8_isFixed 65 = .ok (.getfield 56, 3) := by decide +kernel
theorem dX8_isFixed_68 : decode cX8_isFixed 68 = .ok (.iload_n 1, 1) := by decide +kernel
theorem dX8_isFixed_69 : decode cX8_isFixed 69 = .ok (.invokevirtual 198, 3) := by decide +kernel
theorem dX8_isFixed_72 : decode cX8_isFixed 72 = .ok (.istore 4, 2) := by decide +kernel
theorem dX8_isFixed_74 : decode cX8_isFixed 74 = .ok (.aload_n 0, 1) := by decide +kernel
theorem dX8_isFixed_75 : decode cX8_isFixed 75 = .ok (.getfield 56, 3) := by decide +kernel
theorem dX8_isFixed_78 : decode cX8_isFixed 78 = .ok (.iload_n 3, 1) := by decide +kernel
theorem dX8_isFixed_79 : decode cX8_isFixed 79 = .ok (.iconst 1, 1) := by decide +kernel
theorem dX8_isFixed_80 : decode cX8_isFixed 80 = .ok (.invokevirtual 194, 3) := by decide +kernel
theorem dX8_isFixed_83 : decode cX8_isFixed 83 = .ok (.aload_n 0, 1) := by decide +kernel
theorem dX8_isFixed_84 : decode cX8_isFixed 84 = .ok (.getfield 56, 3) := by decide +kernel
theorem dX8_isFixed_87 : decode cX8_isFixed 87 = .ok (.iload_n 1, 1) := by decide +kernel
theorem dX8_isFixed_88 : decode cX8_isFixed 88 = .ok (.invokevirtual 198, 3) := by decide +kernel
theorem dX8_isFixed_91 : decode cX8_isFixed 91 = .ok (.iload 4, 2) := by decide +kernel
theorem dX8_isFixed_93 : decode cX8_isFixed 93 = .ok (.if_icmp .eq 5, 3) := by decide +kernel
theorem dX8_isFixed_96 : decode cX8_isFixed 96 = .ok (.iconst 0, 1) := by decide +kernel
theorem dX8_isFixed_97 : decode cX8_isFixed 97 = .ok (.ireturn, 1) := by decide +kernel
theorem dX8_isFixed_98 : decode cX8_isFixed 98 = .ok (.iinc 3 1, 3) := by decide +kernel
theorem dX8_isFixed_101 : decode cX8_isFixed 101 = .ok (.goto (-65), 3) := by decide +kernel
theorem dX8_isFixed_104 : decode cX8_isFixed 104 = .ok (.iconst 1, 1) := by decide +kernel
theorem dX8_isFixed_105 : decode cX8_isFixed 105 = .ok (.ireturn, 1) := by decide +kernel
theorem dX8_clear_0 : decode cX8_clear 0 = .ok (.aload_n 0, 1) := by decide +kernel
theorem dX8_clear_1 : decode cX8_clear 1 = .ok (.getfield 28, 3) := by decide +kernel
theorem dX8_clear_4 : decode cX8_clear 4 = .ok (.invokevirtual 283, 3) := by decide +kernel
theorem dX8_clear_7 : decode cX8_clear 7 = .ok (.ireturn, 1) := by decide +kernel
theorem dX8_checksum_0 : decode cX8_checksum 0 = .ok (.ldc2_w 286, 3) := by decide +kernel
theorem dX8_checksum_3 : decode cX8_checksum 3 = .ok (.lstore_n 1, 1) := by decide +kernel
theorem dX8_checksum_4 : decode cX8_checksum 4 = .ok (.iconst 0, 1) := by decide +kernel
theorem dX8_checksum_5 : decode cX8_checksum 5 = .ok (.istore_n 3, 1) := by decide +kernel
theorem dX8_checksum_6 : decode cX8_checksum 6 = .ok (.iload_n 3, 1) := by decide +kernel
theorem dX8_checksum_7 : decode cX8_checksum 7 = .ok (.aload_n 0, 1) := by decide +kernel
theorem dX8_checksum_8 : decode cX8_checksum 8 = .ok (.getfield 18, 3) := by decide +kernel
theorem dX8_checksum_11 : decode cX8_checksum 11 = .ok (.invokevirtual 60, 3) := by decide +kernel
theorem dX8_checksum_14 : decode cX8_checksum 14 = .ok (.if_icmp .ge 25, 3) := by decide +kernel
theorem dX8_checksum_17 : decode cX8_checksum 17 = .ok (.ldc2_w 288, 3) := by decide +kernel
theorem dX8_checksum_20 : decode cX8_checksum 20 = .ok (.lload_n 1, 1) := by decide +kernel
theorem dX8_checksum_21 : decode cX8_checksum 21 = .ok (.lmul, 1) := by decide +kernel
theorem dX8_checksum_22 : decode cX8_checksum 22 = .ok (.aload_n 0, 1) := by decide +kernel
theorem dX8_checksum_23 : decode cX8_checksum 23 = .ok (.getfield 18, 3) := by decide +kernel
theorem dX8_checksum_26 : decode cX8_checksum 26 = .ok (.iload_n 3, 1) := by decide +kernel
theorem dX8_checksum_27 : decode cX8_checksum 27 = .ok (.invokevirtual 112, 3) := by decide +kernel
theorem dX8_checksum_30 : decode cX8_checksum 30 = .ok (.i2l, 1) := by decide +kernel
theorem dX8_checksum_31 : decode cX8_checksum 31 = .ok (.ladd, 1) := by decide +kernel
theorem dX8_checksum_32 : decode cX8_checksum 32 = .ok (.lstore_n 1, 1) := by decide +kernel
theorem dX8_checksum_33 : decode cX8_checksum 33 = .ok (.iinc 3 1, 3) := by decide +kernel
theorem dX8_checksum_36 : decode cX8_checksum 36 = .ok (.goto (-30), 3) := by decide +kernel
theorem dX8_checksum_39 : decode cX8_checksum 39 = .ok (.iconst 0, 1) := by decide +kernel
theorem dX8_checksum_40 : decode cX8_checksum 40 = .ok (.istore_n 3, 1) := by decide +kernel
theorem dX8_checksum_41 : decode cX8_checksum 41 = .ok (.iload_n 3, 1) := by decide +kernel
theorem dX8_checksum_42 : decode cX8_checksum 42 = .ok (.aload_n 0, 1) := by decide +kernel
theorem dX8_checksum_43 : decode cX8_checksum 43 = .ok (.getfield 24, 3) := by decide +kernel
theorem dX8_checksum_46 : decode cX8_checksum 46 = .ok (.invokevirtual 290, 3) := by decide +kernel
theorem dX8_checksum_49 : decode cX8_checksum 49 = .ok (.if_icmp .ge 80, 3) := by decide +kernel
theorem dX8_checksum_52 : decode cX8_checksum 52 = .ok (.ldc2_w 288, 3) := by decide +kernel
theorem dX8_checksum_55 : decode cX8_checksum 55 = .ok (.lload_n 1, 1) := by decide +kernel
theorem dX8_checksum_56 : decode cX8_checksum 56 = .ok (.lmul, 1) := by decide +kernel
theorem dX8_checksum_57 : decode cX8_checksum 57 = .ok (.aload_n 0, 1) := by decide +kernel
theorem dX8_checksum_58 : decode cX8_checksum 58 = .ok (.getfield 24, 3) := by decide +kernel
theorem dX8_checksum_61 : decode cX8_checksum 61 = .ok (.iload_n 3, 1) := by decide +kernel
theorem dX8_checksum_62 : decode cX8_checksum 62 = .ok (.invokevirtual 175, 3) := by decide +kernel
theorem dX8_checksum_65 : decode cX8_checksum 65 = .ok (.i2l, 1) := by decide +kernel
theorem dX8_checksum_66 : decode cX8_checksum 66 = .ok (.ladd, 1) := by decide +kernel
theorem dX8_checksum_67 : decode cX8_checksum 67 = .ok (.lstore_n 1, 1) := by decide +kernel
theorem dX8_checksum_68 : decode cX8_checksum 68 = .ok (.iconst 0, 1) := by decide +kernel
theorem dX8_checksum_69 : decode cX8_checksum 69 = .ok (.istore 4, 2) := by decide +kernel
theorem dX8_checksum_71 : decode cX8_checksum 71 = .ok (.iload 4, 2) := by decide +kernel
theorem dX8_checksum_73 : decode cX8_checksum 73 = .ok (.aload_n 0, 1) := by decide +kernel
theorem dX8_checksum_74 : decode cX8_checksum 74 = .ok (.getfield 24, 3) := by decide +kernel
theorem dX8_checksum_77 : decode cX8_checksum 77 = .ok (.iload_n 3, 1) := by decide +kernel
theorem dX8_checksum_78 : decode cX8_checksum 78 = .ok (.invokevirtual 161, 3) := by decide +kernel
theorem dX8_checksum_81 : decode cX8_checksum 81 = .ok (.if_icmp .ge 42, 3) := by decide +kernel
theorem dX8_checksum_84 : decode cX8_checksum 84 = .ok (.ldc2_w 288, 3) := by decide +kernel
theorem dX8_checksum_87 : decode cX8_checksum 87 = .ok (.lload_n 1, 1) := by decide +kernel
theorem dX8_checksum_88 : decode cX8_checksum 88 = .ok (.lmul, 1) := by decide +kernel
theorem dX8_checksum_89 : decode cX8_checksum 89 = .ok (.aload_n 0, 1) := by decide +kernel
theorem dX8_checksum_90 : decode cX8_checksum 90 = .ok (.getfield 24, 3) := by decide +kernel
theorem dX8_checksum_93 : decode cX8_checksum 93 = .ok (.iload_n 3, 1) := by decide +kernel
theorem dX8_checksum_94 : decode cX8_checksum 94 = .ok (.iload 4, 2) := by decide +kernel
theorem dX8_checksum_96 : decode cX8_checksum 96 = .ok (.invokevirtual 291, 3) := by decide +kernel
theorem dX8_checksum_99 : decode cX8_checksum 99 = .ok (.i2l, 1) := by decide +kernel
theorem dX8_checksum_100 : decode cX8_checksum 100 = .ok (.ladd, 1) := by decide +kernel
theorem dX8_checksum_101 : decode cX8_checksum 101 = .ok (.bipush 16, 2) := by decide +kernel
theorem dX8_checksum_103 : decode cX8_checksum 103 = .ok (.aload_n 0, 1) := by decide +kernel
theorem dX8_checksum_104 : decode cX8_checksum 104 = .ok (.getfield 24, 3) := by decide +kernel
theorem dX8_checksum_107 : decode cX8_checksum 107 = .ok (.iload_n 3, 1) := by decide +kernel
theorem dX8_checksum_108 : decode cX8_checksum 108 = .ok (.iload 4, 2) := by decide +kernel
theorem dX8_checksum_110 : decode cX8_checksum 110 = .ok (.invokevirtual 294, 3) := by decide +kernel
theorem dX8_checksum_113 : decode cX8_checksum 113 = .ok (.imul, 1) := by decide +kernel
theorem dX8_checksum_114 : decode cX8_checksum 114 = .ok (.i2l, 1) := by decide +kernel
theorem dX8_checksum_115 : decode cX8_checksum 115 = .ok (.ladd, 1) := by decide +kernel
theorem dX8_checksum_116 : decode cX8_checksum 116 = .ok (.lstore_n 1, 1) := by decide +kernel
theorem dX8_checksum_117 : decode cX8_checksum 117 = .ok (.iinc 4 1, 3) := by decide +kernel
theorem dX8_checksum_120 : decode cX8_checksum 120 = .ok (.goto (-49), 3) := by decide +kernel
theorem dX8_checksum_123 : decode cX8_checksum 123 = .ok (.iinc 3 1, 3) := by decide +kernel
theorem dX8_checksum_126 : decode cX8_checksum 126 = .ok (.goto (-85), 3) := by decide +kernel
theorem dX8_checksum_129 : decode cX8_checksum 129 = .ok (.ldc2_w 288, 3) := by decide +kernel
theorem dX8_checksum_132 : decode cX8_checksum 132 = .ok (.lload_n 1, 1) := by decide +kernel
theorem dX8_checksum_133 : decode cX8_checksum 133 = .ok (.lmul, 1) := by decide +kernel
theorem dX8_checksum_134 : decode cX8_checksum 134 = .ok (.aload_n 0, 1) := by decide +kernel
theorem dX8_checksum_135 : decode cX8_checksum 135 = .ok (.getfield 28, 3) := by decide +kernel
theorem dX8_checksum_138 : decode cX8_checksum 138 = .ok (.invokevirtual 297, 3) := by decide +kernel
theorem dX8_checksum_141 : decode cX8_checksum 141 = .ok (.i2l, 1) := by decide +kernel
theorem dX8_checksum_142 : decode cX8_checksum 142 = .ok (.ladd, 1) := by decide +kernel
theorem dX8_checksum_143 : decode cX8_checksum 143 = .ok (.lreturn, 1) := by decide +kernel
theorem dX8_lastShare_0 : decode cX8_lastShare 0 = .ok (.aload_n 0, 1) := by decide +kernel
theorem dX8_lastShare_1 : decode cX8_lastShare 1 = .ok (.getfield 18, 3) := by decide +kernel
theorem dX8_lastShare_4 : decode cX8_lastShare 4 = .ok (.invokevirtual 60, 3) := by decide +kernel
theorem dX8_lastShare_7 : decode cX8_lastShare 7 = .ok (.ifCond .ne 14, 3) := by decide +kernel
theorem dX8_lastShare_10 : decode cX8_lastShare 10 = .ok (.new 266, 3) := by decide +kernel
theorem dX8_lastShare_13 : decode cX8_lastShare 13 = .ok (.dup, 1) := by decide +kernel
theorem dX8_lastShare_14 : decode cX8_lastShare 14 = .ok (.ldc_w 298, 3) := by decide +kernel
theorem dX8_lastShare_17 : decode cX8_lastShare 17 = .ok (.invokespecial 270, 3) := by decide +kernel
theorem dX8_lastShare_20 : decode cX8_lastShare 20 = .ok (.athrow, 1) := by decide +kernel
theorem dX8_lastShare_21 : decode cX8_lastShare 21 = .ok (.aload_n 0, 1) := by decide +kernel
theorem dX8_lastShare_22 : decode cX8_lastShare 22 = .ok (.getfield 18, 3) := by decide +kernel
theorem dX8_lastShare_25 : decode cX8_lastShare 25 = .ok (.invokevirtual 96, 3) := by decide +kernel
theorem dX8_lastShare_28 : decode cX8_lastShare 28 = .ok (.invokestatic 106, 3) := by decide +kernel
theorem dX8_lastShare_31 : decode cX8_lastShare 31 = .ok (.i2f, 1) := by decide +kernel
theorem dX8_lastShare_32 : decode cX8_lastShare 32 = .ok (.aload_n 0, 1) := by decide +kernel
theorem dX8_lastShare_33 : decode cX8_lastShare 33 = .ok (.getfield 18, 3) := by decide +kernel
theorem dX8_lastShare_36 : decode cX8_lastShare 36 = .ok (.invokevirtual 60, 3) := by decide +kernel
theorem dX8_lastShare_39 : decode cX8_lastShare 39 = .ok (.i2f, 1) := by decide +kernel
theorem dX8_lastShare_40 : decode cX8_lastShare 40 = .ok (.fdiv, 1) := by decide +kernel
theorem dX8_lastShare_41 : decode cX8_lastShare 41 = .ok (.freturn, 1) := by decide +kernel
theorem dX8_meanRank_0 : decode cX8_meanRank 0 = .ok (.aload_n 0, 1) := by decide +kernel
theorem dX8_meanRank_1 : decode cX8_meanRank 1 = .ok (.getfield 24, 3) := by decide +kernel
theorem dX8_meanRank_4 : decode cX8_meanRank 4 = .ok (.invokevirtual 290, 3) := by decide +kernel
theorem dX8_meanRank_7 : decode cX8_meanRank 7 = .ok (.ifCond .ne 14, 3) := by decide +kernel
theorem dX8_meanRank_10 : decode cX8_meanRank 10 = .ok (.new 266, 3) := by decide +kernel
theorem dX8_meanRank_13 : decode cX8_meanRank 13 = .ok (.dup, 1) := by decide +kernel
theorem dX8_meanRank_14 : decode cX8_meanRank 14 = .ok (.ldc_w 300, 3) := by decide +kernel
theorem dX8_meanRank_17 : decode cX8_meanRank 17 = .ok (.invokespecial 270, 3) := by decide +kernel
theorem dX8_meanRank_20 : decode cX8_meanRank 20 = .ok (.athrow, 1) := by decide +kernel
theorem dX8_meanRank_21 : decode cX8_meanRank 21 = .ok (.iconst 0, 1) := by decide +kernel
theorem dX8_meanRank_22 : decode cX8_meanRank 22 = .ok (.istore_n 1, 1) := by decide +kernel
theorem dX8_meanRank_23 : decode cX8_meanRank 23 = .ok (.iconst 0, 1) := by decide +kernel
theorem dX8_meanRank_24 : decode cX8_meanRank 24 = .ok (.istore_n 2, 1) := by decide +kernel
theorem dX8_meanRank_25 : decode cX8_meanRank 25 = .ok (.iload_n 2, 1) := by decide +kernel
theorem dX8_meanRank_26 : decode cX8_meanRank 26 = .ok (.aload_n 0, 1) := by decide +kernel
theorem dX8_meanRank_27 : decode cX8_meanRank 27 = .ok (.getfield 24, 3) := by decide +kernel
theorem dX8_meanRank_30 : decode cX8_meanRank 30 = .ok (.invokevirtual 290, 3) := by decide +kernel
theorem dX8_meanRank_33 : decode cX8_meanRank 33 = .ok (.if_icmp .ge 20, 3) := by decide +kernel
theorem dX8_meanRank_36 : decode cX8_meanRank 36 = .ok (.iload_n 1, 1) := by decide +kernel
theorem dX8_meanRank_37 : decode cX8_meanRank 37 = .ok (.aload_n 0, 1) := by decide +kernel
theorem dX8_meanRank_38 : decode cX8_meanRank 38 = .ok (.getfield 24, 3) := by decide +kernel
theorem dX8_meanRank_41 : decode cX8_meanRank 41 = .ok (.iload_n 2, 1) := by decide +kernel
theorem dX8_meanRank_42 : decode cX8_meanRank 42 = .ok (.invokevirtual 175, 3) := by decide +kernel
theorem dX8_meanRank_45 : decode cX8_meanRank 45 = .ok (.iadd, 1) := by decide +kernel
theorem dX8_meanRank_46 : decode cX8_meanRank 46 = .ok (.istore_n 1, 1) := by decide +kernel
theorem dX8_meanRank_47 : decode cX8_meanRank 47 = .ok (.iinc 2 1, 3) := by decide +kernel
theorem dX8_meanRank_50 : decode cX8_meanRank 50 = .ok (.goto (-25), 3) := by decide +kernel
theorem dX8_meanRank_53 : decode cX8_meanRank 53 = .ok (.iload_n 1, 1) := by decide +kernel
theorem dX8_meanRank_54 : decode cX8_meanRank 54 = .ok (.i2d, 1) := by decide +kernel
theorem dX8_meanRank_55 : decode cX8_meanRank 55 = .ok (.aload_n 0, 1) := by decide +kernel
theorem dX8_meanRank_56 : decode cX8_meanRank 56 = .ok (.getfield 24, 3) := by decide +kernel
theorem dX8_meanRank_59 : decode cX8_meanRank 59 = .ok (.invokevirtual 290, 3) := by decide +kernel
theorem dX8_meanRank_62 : decode cX8_meanRank 62 = .ok (.i2d, 1) := by decide +kernel
theorem dX8_meanRank_63 : decode cX8_meanRank 63 = .ok (.ddiv, 1) := by decide +kernel
theorem dX8_meanRank_64 : decode cX8_meanRank 64 = .ok (.dreturn, 1) := by decide +kernel
theorem dX8_isSound_0 : decode cX8_isSound 0 = .ok (.iconst 0, 1) := by decide +kernel
theorem dX8_isSound_1 : decode cX8_isSound 1 = .ok (.istore_n 1, 1) := by decide +kernel
theorem dX8_isSound_2 : decode cX8_isSound 2 = .ok (.iload_n 1, 1) := by decide +kernel
theorem dX8_isSound_3 : decode cX8_isSound 3 = .ok (.aload_n 0, 1) := by decide +kernel
theorem dX8_isSound_4 : decode cX8_isSound 4 = .ok (.getfield 28, 3) := by decide +kernel
theorem dX8_isSound_7 : decode cX8_isSound 7 = .ok (.invokevirtual 297, 3) := by decide +kernel
theorem dX8_isSound_10 : decode cX8_isSound 10 = .ok (.if_icmp .ge 59, 3) := by decide +kernel
theorem dX8_isSound_13 : decode cX8_isSound 13 = .ok (.aload_n 0, 1) := by decide +kernel
theorem dX8_isSound_14 : decode cX8_isSound 14 = .ok (.getfield 28, 3) := by decide +kernel
theorem dX8_isSound_17 : decode cX8_isSound 17 = .ok (.iload_n 1, 1) := by decide +kernel
theorem dX8_isSound_18 : decode cX8_isSound 18 = .ok (.invokevirtual 249, 3) := by decide +kernel
theorem dX8_isSound_21 : decode cX8_isSound 21 = .ok (.ifCond .ne 42, 3) := by decide +kernel
theorem dX8_isSound_24 : decode cX8_isSound 24 = .ok (.aload_n 0, 1) := by decide +kernel
theorem dX8_isSound_25 : decode cX8_isSound 25 = .ok (.getfield 37, 3) := by decide +kernel
theorem dX8_isSound_28 : decode cX8_isSound 28 = .ok (.iload_n 1, 1) := by decide +kernel
theorem dX8_isSound_29 : decode cX8_isSound 29 = .ok (.invokevirtual 257, 3) := by decide +kernel
theorem dX8_isSound_32 : decode cX8_isSound 32 = .ok (.istore_n 2, 1) := by decide +kernel
theorem dX8_isSound_33 : decode cX8_isSound 33 = .ok (.aload_n 0, 1) := by decide +kernel
theorem dX8_isSound_34 : decode cX8_isSound 34 = .ok (.aload_n 0, 1) := by decide +kernel
theorem dX8_isSound_35 : decode cX8_isSound 35 = .ok (.getfield 44, 3) := by decide +kernel
theorem dX8_isSound_38 : decode cX8_isSound 38 = .ok (.iload_n 1, 1) := by decide +kernel
theorem dX8_isSound_39 : decode cX8_isSound 39 = .ok (.invokevirtual 257, 3) := by decide +kernel
theorem dX8_isSound_42 : decode cX8_isSound 42 = .ok (.iload_n 2, 1) := by decide +kernel
theorem dX8_isSound_43 : decode cX8_isSound 43 = .ok (.invokevirtual 302, 3) := by decide +kernel
theorem dX8_isSound_46 : decode cX8_isSound 46 = .ok (.ifCond .eq 15, 3) := by decide +kernel
theorem dX8_isSound_49 : decode cX8_isSound 49 = .ok (.iload_n 2, 1) := by decide +kernel
theorem dX8_isSound_50 : decode cX8_isSound 50 = .ok (.aload_n 0, 1) := by decide +kernel
theorem dX8_isSound_51 : decode cX8_isSound 51 = .ok (.getfield 56, 3) := by decide +kernel
theorem dX8_isSound_54 : decode cX8_isSound 54 = .ok (.iload_n 1, 1) := by decide +kernel
theorem dX8_isSound_55 : decode cX8_isSound 55 = .ok (.invokevirtual 263, 3) := by decide +kernel
theorem dX8_isSound_58 : decode cX8_isSound 58 = .ok (.if_icmp .eq 5, 3) := by decide +kernel
theorem dX8_isSound_61 : decode cX8_isSound 61 = .ok (.iconst 0, 1) := by decide +kernel
theorem dX8_isSound_62 : decode cX8_isSound 62 = .ok (.ireturn, 1) := by decide +kernel
theorem dX8_isSound_63 : decode cX8_isSound 63 = .ok (.iinc 1 1, 3) := by decide +kernel
theorem dX8_isSound_66 : decode cX8_isSound 66 = .ok (.goto (-64), 3) := by decide +kernel
theorem dX8_isSound_69 : decode cX8_isSound 69 = .ok (.aload_n 0, 1) := by decide +kernel
theorem dX8_isSound_70 : decode cX8_isSound 70 = .ok (.getfield 18, 3) := by decide +kernel
theorem dX8_isSound_73 : decode cX8_isSound 73 = .ok (.invokevirtual 96, 3) := by decide +kernel
theorem dX8_isSound_76 : decode cX8_isSound 76 = .ok (.istore_n 1, 1) := by decide +kernel
theorem dX8_isSound_77 : decode cX8_isSound 77 = .ok (.iconst 0, 1) := by decide +kernel
theorem dX8_isSound_78 : decode cX8_isSound 78 = .ok (.istore_n 2, 1) := by decide +kernel
theorem dX8_isSound_79 : decode cX8_isSound 79 = .ok (.iload_n 2, 1) := by decide +kernel
theorem dX8_isSound_80 : decode cX8_isSound 80 = .ok (.aload_n 0, 1) := by decide +kernel
theorem dX8_isSound_81 : decode cX8_isSound 81 = .ok (.getfield 18, 3) := by decide +kernel
theorem dX8_isSound_84 : decode cX8_isSound 84 = .ok (.invokevirtual 60, 3) := by decide +kernel
theorem dX8_isSound_87 : decode cX8_isSound 87 = .ok (.if_icmp .ge 36, 3) := by decide +kernel
theorem dX8_isSound_90 : decode cX8_isSound 90 = .ok (.iload_n 1, 1) := by decide +kernel
theorem dX8_isSound_91 : decode cX8_isSound 91 = .ok (.iload_n 2, 1) := by decide +kernel
theorem dX8_isSound_92 : decode cX8_isSound 92 = .ok (.invokestatic 103, 3) := by decide +kernel
theorem dX8_isSound_95 : decode cX8_isSound 95 = .ok (.ifCond .eq 22, 3) := by decide +kernel
theorem dX8_isSound_98 : decode cX8_isSound 98 = .ok (.aload_n 0, 1) := by decide +kernel
theorem dX8_isSound_99 : decode cX8_isSound 99 = .ok (.getfield 56, 3) := by decide +kernel
theorem dX8_isSound_102 : decode cX8_isSound 102 = .ok (.iload_n 2, 1) := by decide +kernel
theorem dX8_isSound_103 : decode cX8_isSound 103 = .ok (.iconst 0, 1) := by decide +kernel
theorem dX8_isSound_104 : decode cX8_isSound 104 = .ok (.invokevirtual 194, 3) := by decide +kernel
theorem dX8_isSound_107 : decode cX8_isSound 107 = .ok (.aload_n 0, 1) := by decide +kernel
theorem dX8_isSound_108 : decode cX8_isSound 108 = .ok (.iload_n 2, 1) := by decide +kernel
theorem dX8_isSound_109 : decode cX8_isSound 109 = .ok (.invokevirtual 305, 3) := by decide +kernel
theorem dX8_isSound_112 : decode cX8_isSound 112 = .ok (.ifCond .ne 5, 3) := by decide +kernel
theorem dX8_isSound_115 : decode cX8_isSound 115 = .ok (.iconst 0, 1) := by decide +kernel
theorem dX8_isSound_116 : decode cX8_isSound 116 = .ok (.ireturn, 1) := by decide +kernel
theorem dX8_isSound_117 : decode cX8_isSound 117 = .ok (.iinc 2 1, 3) := by decide +kernel
theorem dX8_isSound_120 : decode cX8_isSound 120 = .ok (.goto (-41), 3) := by decide +kernel
theorem dX8_isSound_123 : decode cX8_isSound 123 = .ok (.iconst 1, 1) := by decide +kernel
theorem dX8_isSound_124 : decode cX8_isSound 124 = .ok (.ireturn, 1) := by decide +kernel
theorem dX8_isForcedAsValued_0 : decode cX8_isForcedAsValued 0 = .ok (.iconst 0, 1) := by decide +kernel
theorem dX8_isForcedAsValued_1 : decode cX8_isForcedAsValued 1 = .ok (.istore_n 3, 1) := by decide +kernel
theorem dX8_isForcedAsValued_2 : decode cX8_isForcedAsValued 2 = .ok (.iload_n 3, 1) := by decide +kernel
theorem dX8_isForcedAsValued_3 : decode cX8_isForcedAsValued 3 = .ok (.aload_n 0, 1) := by decide +kernel
theorem dX8_isForcedAsValued_4 : decode cX8_isForcedAsValued 4 = .ok (.getfield 18, 3) := by decide +kernel
theorem dX8_isForcedAsValued_7 : decode cX8_isForcedAsValued 7 = .ok (.invokevirtual 60, 3) := by decide +kernel
theorem dX8_isForcedAsValued_10 : decode cX8_isForcedAsValued 10 = .ok (.if_icmp .ge 31, 3) := by decide +kernel
theorem dX8_isForcedAsValued_13 : decode cX8_isForcedAsValued 13 = .ok (.iload_n 1, 1) := by decide +kernel
theorem dX8_isForcedAsValued_14 : decode cX8_isForcedAsValued 14 = .ok (.iload_n 3, 1) := by decide +kernel
theorem dX8_isForcedAsValued_15 : decode cX8_isForcedAsValued 15 = .ok (.invokestatic 103, 3) := by decide +kernel
theorem dX8_isForcedAsValued_18 : decode cX8_isForcedAsValued 18 = .ok (.aload_n 0, 1) := by decide +kernel
theorem dX8_isForcedAsValued_19 : decode cX8_isForcedAsValued 19 = .ok (.getfield 18, 3) := by decide +kernel
theorem dX8_isForcedAsValued_22 : decode cX8_isForcedAsValued 22 = .ok (.iload_n 3, 1) := by decide +kernel
theorem dX8_isForcedAsValued_23 : decode cX8_isForcedAsValued 23 = .ok (.invokevirtual 130, 3) := by decide +kernel
theorem dX8_isForcedAsValued_26 : decode cX8_isForcedAsValued 26 = .ok (.iload_n 2, 1) := by decide +kernel
theorem dX8_isForcedAsValued_27 : decode cX8_isForcedAsValued 27 = .ok (.invokestatic 118, 3) := by decide +kernel
theorem dX8_isForcedAsValued_30 : decode cX8_isForcedAsValued 30 = .ok (.if_icmp .eq 5, 3) := by decide +kernel
theorem dX8_isForcedAsValued_33 : decode cX8_isForcedAsValued 33 = .ok (.iconst 0, 1) := by decide +kernel
theorem dX8_isForcedAsValued_34 : decode cX8_isForcedAsValued 34 = .ok (.ireturn, 1) := by decide +kernel
theorem dX8_isForcedAsValued_35 : decode cX8_isForcedAsValued 35 = .ok (.iinc 3 1, 3) := by decide +kernel
theorem dX8_isForcedAsValued_38 : decode cX8_isForcedAsValued 38 = .ok (.goto (-36), 3) := by decide +kernel
theorem dX8_isForcedAsValued_41 : decode cX8_isForcedAsValued 41 = .ok (.iconst 1, 1) := by decide +kernel
theorem dX8_isForcedAsValued_42 : decode cX8_isForcedAsValued 42 = .ok (.ireturn, 1) := by decide +kernel
theorem dX8_isAlikeAsBecome_0 : decode cX8_isAlikeAsBecome 0 = .ok (.iconst 0, 1) := by decide +kernel
theorem dX8_isAlikeAsBecome_1 : decode cX8_isAlikeAsBecome 1 = .ok (.istore_n 2, 1) := by decide +kernel
theorem dX8_isAlikeAsBecome_2 : decode cX8_isAlikeAsBecome 2 = .ok (.iload_n 2, 1) := by decide +kernel
theorem dX8_isAlikeAsBecome_3 : decode cX8_isAlikeAsBecome 3 = .ok (.aload_n 0, 1) := by decide +kernel
theorem dX8_isAlikeAsBecome_4 : decode cX8_isAlikeAsBecome 4 = .ok (.getfield 24, 3) := by decide +kernel
theorem dX8_isAlikeAsBecome_7 : decode cX8_isAlikeAsBecome 7 = .ok (.invokevirtual 290, 3) := by decide +kernel
theorem dX8_isAlikeAsBecome_10 : decode cX8_isAlikeAsBecome 10 = .ok (.if_icmp .ge 65, 3) := by decide +kernel
theorem dX8_isAlikeAsBecome_13 : decode cX8_isAlikeAsBecome 13 = .ok (.iconst 0, 1) := by decide +kernel
theorem dX8_isAlikeAsBecome_14 : decode cX8_isAlikeAsBecome 14 = .ok (.istore_n 3, 1) := by decide +kernel
theorem dX8_isAlikeAsBecome_15 : decode cX8_isAlikeAsBecome 15 = .ok (.iload_n 3, 1) := by decide +kernel
theorem dX8_isAlikeAsBecome_16 : decode cX8_isAlikeAsBecome 16 = .ok (.aload_n 0, 1) := by decide +kernel
theorem dX8_isAlikeAsBecome_17 : decode cX8_isAlikeAsBecome 17 = .ok (.getfield 24, 3) := by decide +kernel
theorem dX8_isAlikeAsBecome_20 : decode cX8_isAlikeAsBecome 20 = .ok (.invokevirtual 290, 3) := by decide +kernel
theorem dX8_isAlikeAsBecome_23 : decode cX8_isAlikeAsBecome 23 = .ok (.if_icmp .ge 46, 3) := by decide +kernel
theorem dX8_isAlikeAsBecome_26 : decode cX8_isAlikeAsBecome 26 = .ok (.aload_n 0, 1) := by decide +kernel
theorem dX8_isAlikeAsBecome_27 : decode cX8_isAlikeAsBecome 27 = .ok (.getfield 37, 3) := by decide +kernel
theorem dX8_isAlikeAsBecome_30 : decode cX8_isAlikeAsBecome 30 = .ok (.iload_n 2, 1) := by decide +kernel
theorem dX8_isAlikeAsBecome_31 : decode cX8_isAlikeAsBecome 31 = .ok (.iload_n 3, 1) := by decide +kernel
theorem dX8_isAlikeAsBecome_32 : decode cX8_isAlikeAsBecome 32 = .ok (.invokevirtual 207, 3) := by decide +kernel
theorem dX8_isAlikeAsBecome_35 : decode cX8_isAlikeAsBecome 35 = .ok (.iload_n 1, 1) := by decide +kernel
theorem dX8_isAlikeAsBecome_36 : decode cX8_isAlikeAsBecome 36 = .ok (.invokestatic 103, 3) := by decide +kernel
theorem dX8_isAlikeAsBecome_39 : decode cX8_isAlikeAsBecome 39 = .ok (.ifCond .eq 24, 3) := by decide +kernel
theorem dX8_isAlikeAsBecome_42 : decode cX8_isAlikeAsBecome 42 = .ok (.aload_n 0, 1) := by decide +kernel
theorem dX8_isAlikeAsBecome_43 : decode cX8_isAlikeAsBecome 43 = .ok (.getfield 56, 3) := by decide +kernel
theorem dX8_isAlikeAsBecome_46 : decode cX8_isAlikeAsBecome 46 = .ok (.iload_n 2, 1) := by decide +kernel
theorem dX8_isAlikeAsBecome_47 : decode cX8_isAlikeAsBecome 47 = .ok (.invokevirtual 198, 3) := by decide +kernel
theorem dX8_isAlikeAsBecome_50 : decode cX8_isAlikeAsBecome 50 = .ok (.aload_n 0, 1) := by decide +kernel
theorem dX8_isAlikeAsBecome_51 : decode cX8_isAlikeAsBecome 51 = .ok (.getfield 56, 3) := by decide +kernel
theorem dX8_isAlikeAsBecome_54 : decode cX8_isAlikeAsBecome 54 = .ok (.iload_n 3, 1) := by decide +kernel
theorem dX8_isAlikeAsBecome_55 : decode cX8_isAlikeAsBecome 55 = .ok (.invokevirtual 198, 3) := by decide +kernel
theorem dX8_isAlikeAsBecome_58 : decode cX8_isAlikeAsBecome 58 = .ok (.if_icmp .eq 5, 3) := by decide +kernel
theorem dX8_isAlikeAsBecome_61 : decode cX8_isAlikeAsBecome 61 = .ok (.iconst 0, 1) := by decide +kernel
theorem dX8_isAlikeAsBecome_62 : decode cX8_isAlikeAsBecome 62 = .ok (.ireturn, 1) := by decide +kernel
theorem dX8_isAlikeAsBecome_63 : decode cX8_isAlikeAsBecome 63 = .ok (.iinc 3 1, 3) := by decide +kernel
theorem dX8_isAlikeAsBecome_66 : decode cX8_isAlikeAsBecome 66 = .ok (.goto (-51), 3) := by decide +kernel
theorem dX8_isAlikeAsBecome_69 : decode cX8_isAlikeAsBecome 69 = .ok (.iinc 2 1, 3) := by decide +kernel
theorem dX8_isAlikeAsBecome_72 : decode cX8_isAlikeAsBecome 72 = .ok (.goto (-70), 3) := by decide +kernel
theorem dX8_isAlikeAsBecome_75 : decode cX8_isAlikeAsBecome 75 = .ok (.iconst 1, 1) := by decide +kernel
theorem dX8_isAlikeAsBecome_76 : decode cX8_isAlikeAsBecome 76 = .ok (.ireturn, 1) := by decide +kernel
theorem dX8_needCondition_0 : decode cX8_needCondition 0 = .ok (.aload_n 0, 1) := by decide +kernel
theorem dX8_needCondition_1 : decode cX8_needCondition 1 = .ok (.getfield 18, 3) := by decide +kernel
theorem dX8_needCondition_4 : decode cX8_needCondition 4 = .ok (.iload_n 1, 1) := by decide +kernel
theorem dX8_needCondition_5 : decode cX8_needCondition 5 = .ok (.invokevirtual 308, 3) := by decide +kernel
theorem dX8_needCondition_8 : decode cX8_needCondition 8 = .ok (.ifCond .ne 14, 3) := by decide +kernel
theorem dX8_needCondition_11 : decode cX8_needCondition 11 = .ok (.new 311, 3) := by decide +kernel
theorem dX8_needCondition_14 : decode cX8_needCondition 14 = .ok (.dup, 1) := by decide +kernel
theorem dX8_needCondition_15 : decode cX8_needCondition 15 = .ok (.ldc_w 313, 3) := by decide +kernel
theorem dX8_needCondition_18 : decode cX8_needCondition 18 = .ok (.invokespecial 315, 3) := by decide +kernel
theorem dX8_needCondition_21 : decode cX8_needCondition 21 = .ok (.athrow, 1) := by decide +kernel
theorem dX8_needCondition_22 : decode cX8_needCondition 22 = .ok (.return_, 1) := by decide +kernel
theorem dX8_needConditions_0 : decode cX8_needConditions 0 = .ok (.aload_n 0, 1) := by decide +kernel
theorem dX8_needConditions_1 : decode cX8_needConditions 1 = .ok (.iload_n 1, 1) := by decide +kernel
theorem dX8_needConditions_2 : decode cX8_needConditions 2 = .ok (.invokevirtual 127, 3) := by decide +kernel
theorem dX8_needConditions_5 : decode cX8_needConditions 5 = .ok (.aload_n 0, 1) := by decide +kernel
theorem dX8_needConditions_6 : decode cX8_needConditions 6 = .ok (.iload_n 2, 1) := by decide +kernel
theorem dX8_needConditions_7 : decode cX8_needConditions 7 = .ok (.invokevirtual 127, 3) := by decide +kernel
theorem dX8_needConditions_10 : decode cX8_needConditions 10 = .ok (.return_, 1) := by decide +kernel
theorem dX8_needSet_0 : decode cX8_needSet 0 = .ok (.iload_n 1, 1) := by decide +kernel
theorem dX8_needSet_1 : decode cX8_needSet 1 = .ok (.aload_n 0, 1) := by decide +kernel
theorem dX8_needSet_2 : decode cX8_needSet 2 = .ok (.getfield 18, 3) := by decide +kernel
theorem dX8_needSet_5 : decode cX8_needSet 5 = .ok (.invokevirtual 180, 3) := by decide +kernel
theorem dX8_needSet_8 : decode cX8_needSet 8 = .ok (.invokestatic 118, 3) := by decide +kernel
theorem dX8_needSet_11 : decode cX8_needSet 11 = .ok (.ifCond .ne 14, 3) := by decide +kernel
theorem dX8_needSet_14 : decode cX8_needSet 14 = .ok (.new 143, 3) := by decide +kernel
theorem dX8_needSet_17 : decode cX8_needSet 17 = .ok (.dup, 1) := by decide +kernel
theorem dX8_needSet_18 : decode cX8_needSet 18 = .ok (.ldc_w 316, 3) := by decide +kernel
theorem dX8_needSet_21 : decode cX8_needSet 21 = .ok (.invokespecial 147, 3) := by decide +kernel
theorem dX8_needSet_24 : decode cX8_needSet 24 = .ok (.athrow, 1) := by decide +kernel
theorem dX8_needSet_25 : decode cX8_needSet 25 = .ok (.return_, 1) := by decide +kernel
theorem dX8_needWorld_0 : decode cX8_needWorld 0 = .ok (.aload_n 0, 1) := by decide +kernel
theorem dX8_needWorld_1 : decode cX8_needWorld 1 = .ok (.getfield 18, 3) := by decide +kernel
theorem dX8_needWorld_4 : decode cX8_needWorld 4 = .ok (.invokevirtual 96, 3) := by decide +kernel
theorem dX8_needWorld_7 : decode cX8_needWorld 7 = .ok (.iload_n 1, 1) := by decide +kernel
theorem dX8_needWorld_8 : decode cX8_needWorld 8 = .ok (.invokestatic 103, 3) := by decide +kernel
theorem dX8_needWorld_11 : decode cX8_needWorld 11 = .ok (.ifCond .ne 14, 3) := by decide +kernel
theorem dX8_needWorld_14 : decode cX8_needWorld 14 = .ok (.new 143, 3) := by decide +kernel
theorem dX8_needWorld_17 : decode cX8_needWorld 17 = .ok (.dup, 1) := by decide +kernel
theorem dX8_needWorld_18 : decode cX8_needWorld 18 = .ok (.ldc_w 318, 3) := by decide +kernel
theorem dX8_needWorld_21 : decode cX8_needWorld 21 = .ok (.invokespecial 147, 3) := by decide +kernel
theorem dX8_needWorld_24 : decode cX8_needWorld 24 = .ok (.athrow, 1) := by decide +kernel
theorem dX8_needWorld_25 : decode cX8_needWorld 25 = .ok (.return_, 1) := by decide +kernel
theorem dX8_needName_0 : decode cX8_needName 0 = .ok (.aload_n 0, 1) := by decide +kernel
theorem dX8_needName_1 : decode cX8_needName 1 = .ok (.getfield 24, 3) := by decide +kernel
theorem dX8_needName_4 : decode cX8_needName 4 = .ok (.iload_n 1, 1) := by decide +kernel
theorem dX8_needName_5 : decode cX8_needName 5 = .ok (.invokevirtual 320, 3) := by decide +kernel
theorem dX8_needName_8 : decode cX8_needName 8 = .ok (.ifCond .ne 14, 3) := by decide +kernel
theorem dX8_needName_11 : decode cX8_needName 11 = .ok (.new 311, 3) := by decide +kernel
theorem dX8_needName_14 : decode cX8_needName 14 = .ok (.dup, 1) := by decide +kernel
theorem dX8_needName_15 : decode cX8_needName 15 = .ok (.ldc_w 321, 3) := by decide +kernel
theorem dX8_needName_18 : decode cX8_needName 18 = .ok (.invokespecial 315, 3) := by decide +kernel
theorem dX8_needName_21 : decode cX8_needName 21 = .ok (.athrow, 1) := by decide +kernel
theorem dX8_needName_22 : decode cX8_needName 22 = .ok (.return_, 1) := by decide +kernel
theorem dX8_needRoomForNames_0 : decode cX8_needRoomForNames 0 = .ok (.aload_n 0, 1) := by decide +kernel
theorem dX8_needRoomForNames_1 : decode cX8_needRoomForNames 1 = .ok (.getfield 24, 3) := by decide +kernel
theorem dX8_needRoomForNames_4 : decode cX8_needRoomForNames 4 = .ok (.invokevirtual 290, 3) := by decide +kernel
theorem dX8_needRoomForNames_7 : decode cX8_needRoomForNames 7 = .ok (.iload_n 1, 1) := by decide +kernel
theorem dX8_needRoomForNames_8 : decode cX8_needRoomForNames 8 = .ok (.iadd, 1) := by decide +kernel
theorem dX8_needRoomForNames_9 : decode cX8_needRoomForNames 9 = .ok (.bipush 12, 2) := by decide +kernel
theorem dX8_needRoomForNames_11 : decode cX8_needRoomForNames 11 = .ok (.if_icmp .le 14, 3) := by decide +kernel
theorem dX8_needRoomForNames_14 : decode cX8_needRoomForNames 14 = .ok (.new 64, 3) := by decide +kernel
theorem dX8_needRoomForNames_17 : decode cX8_needRoomForNames 17 = .ok (.dup, 1) := by decide +kernel
theorem dX8_needRoomForNames_18 : decode cX8_needRoomForNames 18 = .ok (.ldc_w 323, 3) := by decide +kernel
theorem dX8_needRoomForNames_21 : decode cX8_needRoomForNames 21 = .ok (.invokespecial 68, 3) := by decide +kernel
theorem dX8_needRoomForNames_24 : decode cX8_needRoomForNames 24 = .ok (.athrow, 1) := by decide +kernel
theorem dX8_needRoomForNames_25 : decode cX8_needRoomForNames 25 = .ok (.return_, 1) := by decide +kernel
theorem dX8_needTerm_0 : decode cX8_needTerm 0 = .ok (.aload_n 0, 1) := by decide +kernel
theorem dX8_needTerm_1 : decode cX8_needTerm 1 = .ok (.getfield 24, 3) := by decide +kernel
theorem dX8_needTerm_4 : decode cX8_needTerm 4 = .ok (.iload_n 1, 1) := by decide +kernel
theorem dX8_needTerm_5 : decode cX8_needTerm 5 = .ok (.invokevirtual 320, 3) := by decide +kernel
theorem dX8_needTerm_8 : decode cX8_needTerm 8 = .ok (.ifCond .ne 21, 3) := by decide +kernel
theorem dX8_needTerm_11 : decode cX8_needTerm 11 = .ok (.iload_n 1, 1) := by decide +kernel
theorem dX8_needTerm_12 : decode cX8_needTerm 12 = .ok (.invokestatic 325, 3) := by decide +kernel
theorem dX8_needTerm_15 : decode cX8_needTerm 15 = .ok (.ifCond .ne 14, 3) := by decide +kernel
theorem dX8_needTerm_18 : decode cX8_needTerm 18 = .ok (.new 143, 3) := by decide +kernel
theorem dX8_needTerm_21 : decode cX8_needTerm 21 = .ok (.dup, 1) := by decide +kernel
theorem dX8_needTerm_22 : decode cX8_needTerm 22 = .ok (.ldc_w 328, 3) := by decide +kernel
theorem dX8_needTerm_25 : decode cX8_needTerm 25 = .ok (.invokespecial 147, 3) := by decide +kernel
theorem dX8_needTerm_28 : decode cX8_needTerm 28 = .ok (.athrow, 1) := by decide +kernel
theorem dX8_needTerm_29 : decode cX8_needTerm 29 = .ok (.return_, 1) := by decide +kernel
theorem dX8_needFormula_0 : decode cX8_needFormula 0 = .ok (.aload_n 0, 1) := by decide +kernel
theorem dX8_needFormula_1 : decode cX8_needFormula 1 = .ok (.getfield 28, 3) := by decide +kernel
theorem dX8_needFormula_4 : decode cX8_needFormula 4 = .ok (.iload_n 1, 1) := by decide +kernel
theorem dX8_needFormula_5 : decode cX8_needFormula 5 = .ok (.invokevirtual 330, 3) := by decide +kernel
theorem dX8_needFormula_8 : decode cX8_needFormula 8 = .ok (.ifCond .ne 14, 3) := by decide +kernel
theorem dX8_needFormula_11 : decode cX8_needFormula 11 = .ok (.new 311, 3) := by decide +kernel
theorem dX8_needFormula_14 : decode cX8_needFormula 14 = .ok (.dup, 1) := by decide +kernel
theorem dX8_needFormula_15 : decode cX8_needFormula 15 = .ok (.ldc_w 331, 3) := by decide +kernel
theorem dX8_needFormula_18 : decode cX8_needFormula 18 = .ok (.invokespecial 315, 3) := by decide +kernel
theorem dX8_needFormula_21 : decode cX8_needFormula 21 = .ok (.athrow, 1) := by decide +kernel
theorem dX8_needFormula_22 : decode cX8_needFormula 22 = .ok (.return_, 1) := by decide +kernel
theorem dX8_needClosed_0 : decode cX8_needClosed 0 = .ok (.aload_n 0, 1) := by decide +kernel
theorem dX8_needClosed_1 : decode cX8_needClosed 1 = .ok (.iload_n 1, 1) := by decide +kernel
theorem dX8_needClosed_2 : decode cX8_needClosed 2 = .ok (.invokevirtual 235, 3) := by decide +kernel
theorem dX8_needClosed_5 : decode cX8_needClosed 5 = .ok (.aload_n 0, 1) := by decide +kernel
theorem dX8_needClosed_6 : decode cX8_needClosed 6 = .ok (.getfield 28, 3) := by decide +kernel
theorem dX8_needClosed_9 : decode cX8_needClosed 9 = .ok (.iload_n 1, 1) := by decide +kernel
theorem dX8_needClosed_10 : decode cX8_needClosed 10 = .ok (.invokevirtual 249, 3) := by decide +kernel
theorem dX8_needClosed_13 : decode cX8_needClosed 13 = .ok (.ifCond .eq 14, 3) := by decide +kernel
theorem dX8_needClosed_16 : decode cX8_needClosed 16 = .ok (.new 82, 3) := by decide +kernel
theorem dX8_needClosed_19 : decode cX8_needClosed 19 = .ok (.dup, 1) := by decide +kernel
theorem dX8_needClosed_20 : decode cX8_needClosed 20 = .ok (.ldc_w 333, 3) := by decide +kernel
theorem dX8_needClosed_23 : decode cX8_needClosed 23 = .ok (.invokespecial 86, 3) := by decide +kernel
theorem dX8_needClosed_26 : decode cX8_needClosed 26 = .ok (.athrow, 1) := by decide +kernel
theorem dX8_needClosed_27 : decode cX8_needClosed 27 = .ok (.return_, 1) := by decide +kernel
theorem dX8_needDepth_0 : decode cX8_needDepth 0 = .ok (.iload_n 0, 1) := by decide +kernel
theorem dX8_needDepth_1 : decode cX8_needDepth 1 = .ok (.iconst 5, 1) := by decide +kernel
theorem dX8_needDepth_2 : decode cX8_needDepth 2 = .ok (.if_icmp .le 14, 3) := by decide +kernel
theorem dX8_needDepth_5 : decode cX8_needDepth 5 = .ok (.new 82, 3) := by decide +kernel
theorem dX8_needDepth_8 : decode cX8_needDepth 8 = .ok (.dup, 1) := by decide +kernel
theorem dX8_needDepth_9 : decode cX8_needDepth 9 = .ok (.ldc_w 335, 3) := by decide +kernel
theorem dX8_needDepth_12 : decode cX8_needDepth 12 = .ok (.invokespecial 86, 3) := by decide +kernel
theorem dX8_needDepth_15 : decode cX8_needDepth 15 = .ok (.athrow, 1) := by decide +kernel
theorem dX8_needDepth_16 : decode cX8_needDepth 16 = .ok (.return_, 1) := by decide +kernel
theorem dX8_needRoomForFormula_0 : decode cX8_needRoomForFormula 0 = .ok (.aload_n 0, 1) := by decide +kernel
theorem dX8_needRoomForFormula_1 : decode cX8_needRoomForFormula 1 = .ok (.getfield 28, 3) := by decide +kernel
theorem dX8_needRoomForFormula_4 : decode cX8_needRoomForFormula 4 = .ok (.invokevirtual 297, 3) := by decide +kernel
theorem dX8_needRoomForFormula_7 : decode cX8_needRoomForFormula 7 = .ok (.bipush 16, 2) := by decide +kernel
theorem dX8_needRoomForFormula_9 : decode cX8_needRoomForFormula 9 = .ok (.if_icmp .lt 14, 3) := by decide +kernel
theorem dX8_needRoomForFormula_12 : decode cX8_needRoomForFormula 12 = .ok (.new 64, 3) := by decide +kernel
theorem dX8_needRoomForFormula_15 : decode cX8_needRoomForFormula 15 = .ok (.dup, 1) := by decide +kernel
theorem dX8_needRoomForFormula_16 : decode cX8_needRoomForFormula 16 = .ok (.ldc_w 337, 3) := by decide +kernel
theorem dX8_needRoomForFormula_19 : decode cX8_needRoomForFormula 19 = .ok (.invokespecial 68, 3) := by decide +kernel
theorem dX8_needRoomForFormula_22 : decode cX8_needRoomForFormula 22 = .ok (.athrow, 1) := by decide +kernel
theorem dX8_needRoomForFormula_23 : decode cX8_needRoomForFormula 23 = .ok (.return_, 1) := by decide +kernel
theorem dX8_contains_0 : decode cX8_contains 0 = .ok (.iload_n 1, 1) := by decide +kernel
theorem dX8_contains_1 : decode cX8_contains 1 = .ok (.ifCond .lt 21, 3) := by decide +kernel
theorem dX8_contains_4 : decode cX8_contains 4 = .ok (.iload_n 1, 1) := by decide +kernel
theorem dX8_contains_5 : decode cX8_contains 5 = .ok (.bipush 32, 2) := by decide +kernel
theorem dX8_contains_7 : decode cX8_contains 7 = .ok (.if_icmp .ge 15, 3) := by decide +kernel
theorem dX8_contains_10 : decode cX8_contains 10 = .ok (.iload_n 0, 1) := by decide +kernel
theorem dX8_contains_11 : decode cX8_contains 11 = .ok (.iload_n 1, 1) := by decide +kernel
theorem dX8_contains_12 : decode cX8_contains 12 = .ok (.iushr, 1) := by decide +kernel
theorem dX8_contains_13 : decode cX8_contains 13 = .ok (.iconst 1, 1) := by decide +kernel
theorem dX8_contains_14 : decode cX8_contains 14 = .ok (.iand, 1) := by decide +kernel
theorem dX8_contains_15 : decode cX8_contains 15 = .ok (.ifCond .eq 7, 3) := by decide +kernel
theorem dX8_contains_18 : decode cX8_contains 18 = .ok (.iconst 1, 1) := by decide +kernel
theorem dX8_contains_19 : decode cX8_contains 19 = .ok (.goto 4, 3) := by decide +kernel
theorem dX8_contains_22 : decode cX8_contains 22 = .ok (.iconst 0, 1) := by decide +kernel
theorem dX8_contains_23 : decode cX8_contains 23 = .ok (.ireturn, 1) := by decide +kernel
theorem dX8_isPart_0 : decode cX8_isPart 0 = .ok (.iload_n 0, 1) := by decide +kernel
theorem dX8_isPart_1 : decode cX8_isPart 1 = .ok (.iload_n 1, 1) := by decide +kernel
theorem dX8_isPart_2 : decode cX8_isPart 2 = .ok (.iconst (-1), 1) := by decide +kernel
theorem dX8_isPart_3 : decode cX8_isPart 3 = .ok (.ixor, 1) := by decide +kernel
theorem dX8_isPart_4 : decode cX8_isPart 4 = .ok (.iand, 1) := by decide +kernel
theorem dX8_isPart_5 : decode cX8_isPart 5 = .ok (.ifCond .ne 7, 3) := by decide +kernel
theorem dX8_isPart_8 : decode cX8_isPart 8 = .ok (.iconst 1, 1) := by decide +kernel
theorem dX8_isPart_9 : decode cX8_isPart 9 = .ok (.goto 4, 3) := by decide +kernel
theorem dX8_isPart_12 : decode cX8_isPart 12 = .ok (.iconst 0, 1) := by decide +kernel
theorem dX8_isPart_13 : decode cX8_isPart 13 = .ok (.ireturn, 1) := by decide +kernel
theorem dX8_isLetter_0 : decode cX8_isLetter 0 = .ok (.iload_n 0, 1) := by decide +kernel
theorem dX8_isLetter_1 : decode cX8_isLetter 1 = .ok (.bipush 100, 2) := by decide +kernel
theorem dX8_isLetter_3 : decode cX8_isLetter 3 = .ok (.if_icmp .lt 13, 3) := by decide +kernel
theorem dX8_isLetter_6 : decode cX8_isLetter 6 = .ok (.iload_n 0, 1) := by decide +kernel
theorem dX8_isLetter_7 : decode cX8_isLetter 7 = .ok (.bipush 104, 2) := by decide +kernel
theorem dX8_isLetter_9 : decode cX8_isLetter 9 = .ok (.if_icmp .ge 7, 3) := by decide +kernel
theorem dX8_isLetter_12 : decode cX8_isLetter 12 = .ok (.iconst 1, 1) := by decide +kernel
theorem dX8_isLetter_13 : decode cX8_isLetter 13 = .ok (.goto 4, 3) := by decide +kernel
theorem dX8_isLetter_16 : decode cX8_isLetter 16 = .ok (.iconst 0, 1) := by decide +kernel
theorem dX8_isLetter_17 : decode cX8_isLetter 17 = .ok (.ireturn, 1) := by decide +kernel
theorem dX8_letterOf_0 : decode cX8_letterOf 0 = .ok (.iload_n 0, 1) := by decide +kernel
theorem dX8_letterOf_1 : decode cX8_letterOf 1 = .ok (.invokestatic 325, 3) := by decide +kernel
theorem dX8_letterOf_4 : decode cX8_letterOf 4 = .ok (.ifCond .eq 12, 3) := by decide +kernel
theorem dX8_letterOf_7 : decode cX8_letterOf 7 = .ok (.iconst 1, 1) := by decide +kernel
theorem dX8_letterOf_8 : decode cX8_letterOf 8 = .ok (.iload_n 0, 1) := by decide +kernel
theorem dX8_letterOf_9 : decode cX8_letterOf 9 = .ok (.bipush 100, 2) := by decide +kernel
theorem dX8_letterOf_11 : decode cX8_letterOf 11 = .ok (.isub, 1) := by decide +kernel
theorem dX8_letterOf_12 : decode cX8_letterOf 12 = .ok (.ishl, 1) := by decide +kernel
theorem dX8_letterOf_13 : decode cX8_letterOf 13 = .ok (.goto 4, 3) := by decide +kernel
theorem dX8_letterOf_16 : decode cX8_letterOf 16 = .ok (.iconst 0, 1) := by decide +kernel
theorem dX8_letterOf_17 : decode cX8_letterOf 17 = .ok (.ireturn, 1) := by decide +kernel
theorem dX8_at_0 : decode cX8_at 0 = .ok (.iload_n 1, 1) := by decide +kernel
theorem dX8_at_1 : decode cX8_at 1 = .ok (.ifCond .lt 15, 3) := by decide +kernel
theorem dX8_at_4 : decode cX8_at 4 = .ok (.iload_n 1, 1) := by decide +kernel
theorem dX8_at_5 : decode cX8_at 5 = .ok (.aload_n 0, 1) := by decide +kernel
theorem dX8_at_6 : decode cX8_at 6 = .ok (.arraylength, 1) := by decide +kernel
theorem dX8_at_7 : decode cX8_at 7 = .ok (.if_icmp .ge 9, 3) := by decide +kernel
theorem dX8_at_10 : decode cX8_at 10 = .ok (.aload_n 0, 1) := by decide +kernel
theorem dX8_at_11 : decode cX8_at 11 = .ok (.iload_n 1, 1) := by decide +kernel
theorem dX8_at_12 : decode cX8_at 12 = .ok (.iaload, 1) := by decide +kernel
theorem dX8_at_13 : decode cX8_at 13 = .ok (.goto 4, 3) := by decide +kernel
theorem dX8_at_16 : decode cX8_at 16 = .ok (.iconst 0, 1) := by decide +kernel
theorem dX8_at_17 : decode cX8_at 17 = .ok (.ireturn, 1) := by decide +kernel
theorem dX8_put_0 : decode cX8_put 0 = .ok (.iload_n 1, 1) := by decide +kernel
theorem dX8_put_1 : decode cX8_put 1 = .ok (.ifCond .lt 13, 3) := by decide +kernel
theorem dX8_put_4 : decode cX8_put 4 = .ok (.iload_n 1, 1) := by decide +kernel
theorem dX8_put_5 : decode cX8_put 5 = .ok (.aload_n 0, 1) := by decide +kernel
theorem dX8_put_6 : decode cX8_put 6 = .ok (.arraylength, 1) := by decide +kernel
theorem dX8_put_7 : decode cX8_put 7 = .ok (.if_icmp .ge 7, 3) := by decide +kernel
theorem dX8_put_10 : decode cX8_put 10 = .ok (.aload_n 0, 1) := by decide +kernel
theorem dX8_put_11 : decode cX8_put 11 = .ok (.iload_n 1, 1) := by decide +kernel
theorem dX8_put_12 : decode cX8_put 12 = .ok (.iload_n 2, 1) := by decide +kernel
theorem dX8_put_13 : decode cX8_put 13 = .ok (.iastore, 1) := by decide +kernel
theorem dX8_put_14 : decode cX8_put 14 = .ok (.return_, 1) := by decide +kernel
