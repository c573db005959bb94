theorem dX7_init_0 : decode cX7_init 0 = .ok (.aload_n 0, 1) := by decide +kernel
theorem dX7_init_1 : decode cX7_init 1 = .ok (.invokespecial 1, 3) := by decide +kernel
theorem dX7_init_4 : decode cX7_init 4 = .ok (.aload_n 0, 1) := by decide +kernel
theorem dX7_init_5 : decode cX7_init 5 = .ok (.sipush 703, 3) := by decide +kernel
theorem dX7_init_8 : decode cX7_init 8 = .ok (.newarray .int, 2) := by decide +kernel
theorem dX7_init_10 : decode cX7_init 10 = .ok (.putfield 7, 3) := by decide +kernel
theorem dX7_init_13 : decode cX7_init 13 = .ok (.aload_n 0, 1) := by decide +kernel
theorem dX7_init_14 : decode cX7_init 14 = .ok (.sipush 1406, 3) := by decide +kernel
theorem dX7_init_17 : decode cX7_init 17 = .ok (.newarray .int, 2) := by decide +kernel
theorem dX7_init_19 : decode cX7_init 19 = .ok (.putfield 13, 3) := by decide +kernel
theorem dX7_init_22 : decode cX7_init 22 = .ok (.aload_n 0, 1) := by decide +kernel
theorem dX7_init_23 : decode cX7_init 23 = .ok (.iconst 2, 1) := by decide +kernel
theorem dX7_init_24 : decode cX7_init 24 = .ok (.newarray .boolean, 2) := by decide +kernel
theorem dX7_init_26 : decode cX7_init 26 = .ok (.putfield 16, 3) := by decide +kernel
theorem dX7_init_29 : decode cX7_init 29 = .ok (.aload_n 0, 1) := by decide +kernel
theorem dX7_init_30 : decode cX7_init 30 = .ok (.bipush 40, 2) := by decide +kernel
theorem dX7_init_32 : decode cX7_init 32 = .ok (.newarray .boolean, 2) := by decide +kernel
theorem dX7_init_34 : decode cX7_init 34 = .ok (.putfield 20, 3) := by decide +kernel
theorem dX7_init_37 : decode cX7_init 37 = .ok (.aload_n 0, 1) := by decide +kernel
theorem dX7_init_38 : decode cX7_init 38 = .ok (.bipush 40, 2) := by decide +kernel
theorem dX7_init_40 : decode cX7_init 40 = .ok (.newarray .int, 2) := by decide +kernel
theorem dX7_init_42 : decode cX7_init 42 = .ok (.putfield 23, 3) := by decide +kernel
theorem dX7_init_45 : decode cX7_init 45 = .ok (.aload_n 0, 1) := by decide +kernel
theorem dX7_init_46 : decode cX7_init 46 = .ok (.bipush 20, 2) := by decide +kernel
theorem dX7_init_48 : decode cX7_init 48 = .ok (.newarray .int, 2) := by decide +kernel
theorem dX7_init_50 : decode cX7_init 50 = .ok (.putfield 26, 3) := by decide +kernel
theorem dX7_init_53 : decode cX7_init 53 = .ok (.aload_n 0, 1) := by decide +kernel
theorem dX7_init_54 : decode cX7_init 54 = .ok (.bipush 20, 2) := by decide +kernel
theorem dX7_init_56 : decode cX7_init 56 = .ok (.newarray .int, 2) := by decide +kernel
theorem dX7_init_58 : decode cX7_init 58 = .ok (.putfield 29, 3) := by decide +kernel
theorem dX7_init_61 : decode cX7_init 61 = .ok (.aload_n 0, 1) := by decide +kernel
theorem dX7_init_62 : decode cX7_init 62 = .ok (.iconst 4, 1) := by decide +kernel
theorem dX7_init_63 : decode cX7_init 63 = .ok (.newarray .int, 2) := by decide +kernel
theorem dX7_init_65 : decode cX7_init 65 = .ok (.putfield 32, 3) := by decide +kernel
theorem dX7_init_68 : decode cX7_init 68 = .ok (.aload_n 0, 1) := by decide +kernel
theorem dX7_init_69 : decode cX7_init 69 = .ok (.bipush 20, 2) := by decide +kernel
theorem dX7_init_71 : decode cX7_init 71 = .ok (.newarray .int, 2) := by decide +kernel
theorem dX7_init_73 : decode cX7_init 73 = .ok (.putfield 35, 3) := by decide +kernel
theorem dX7_init_76 : decode cX7_init 76 = .ok (.aload_n 0, 1) := by decide +kernel
theorem dX7_init_77 : decode cX7_init 77 = .ok (.bipush 10, 2) := by decide +kernel
theorem dX7_init_79 : decode cX7_init 79 = .ok (.newarray .int, 2) := by decide +kernel
theorem dX7_init_81 : decode cX7_init 81 = .ok (.putfield 38, 3) := by decide +kernel
theorem dX7_init_84 : decode cX7_init 84 = .ok (.return_, 1) := by decide +kernel
theorem dX7_in_0 : decode cX7_in 0 = .ok (.iload_n 0, 1) := by decide +kernel
theorem dX7_in_1 : decode cX7_in 1 = .ok (.iload_n 1, 1) := by decide +kernel
theorem dX7_in_2 : decode cX7_in 2 = .ok (.if_icmp .lt 12, 3) := by decide +kernel
theorem dX7_in_5 : decode cX7_in 5 = .ok (.iload_n 0, 1) := by decide +kernel
theorem dX7_in_6 : decode cX7_in 6 = .ok (.iload_n 2, 1) := by decide +kernel
theorem dX7_in_7 : decode cX7_in 7 = .ok (.if_icmp .gt 7, 3) := by decide +kernel
theorem dX7_in_10 : decode cX7_in 10 = .ok (.iconst 1, 1) := by decide +kernel
theorem dX7_in_11 : decode cX7_in 11 = .ok (.goto 4, 3) := by decide +kernel
theorem dX7_in_14 : decode cX7_in 14 = .ok (.iconst 0, 1) := by decide +kernel
theorem dX7_in_15 : decode cX7_in 15 = .ok (.ireturn, 1) := by decide +kernel
theorem dX7_isTarget_0 : decode cX7_isTarget 0 = .ok (.iload_n 1, 1) := by decide +kernel
theorem dX7_isTarget_1 : decode cX7_isTarget 1 = .ok (.iconst 0, 1) := by decide +kernel
theorem dX7_isTarget_2 : decode cX7_isTarget 2 = .ok (.aload_n 0, 1) := by decide +kernel
theorem dX7_isTarget_3 : decode cX7_isTarget 3 = .ok (.getfield 7, 3) := by decide +kernel
theorem dX7_isTarget_6 : decode cX7_isTarget 6 = .ok (.iconst 0, 1) := by decide +kernel
theorem dX7_isTarget_7 : decode cX7_isTarget 7 = .ok (.iaload, 1) := by decide +kernel
theorem dX7_isTarget_8 : decode cX7_isTarget 8 = .ok (.iconst 1, 1) := by decide +kernel
theorem dX7_isTarget_9 : decode cX7_isTarget 9 = .ok (.isub, 1) := by decide +kernel
theorem dX7_isTarget_10 : decode cX7_isTarget 10 = .ok (.invokestatic 41, 3) := by decide +kernel
theorem dX7_isTarget_13 : decode cX7_isTarget 13 = .ok (.ireturn, 1) := by decide +kernel
theorem dX7_kindOf_0 : decode cX7_kindOf 0 = .ok (.aload_n 0, 1) := by decide +kernel
theorem dX7_kindOf_1 : decode cX7_kindOf 1 = .ok (.getfield 7, 3) := by decide +kernel
theorem dX7_kindOf_4 : decode cX7_kindOf 4 = .ok (.iconst 3, 1) := by decide +kernel
theorem dX7_kindOf_5 : decode cX7_kindOf 5 = .ok (.iload_n 1, 1) := by decide +kernel
theorem dX7_kindOf_6 : decode cX7_kindOf 6 = .ok (.iadd, 1) := by decide +kernel
theorem dX7_kindOf_7 : decode cX7_kindOf 7 = .ok (.iaload, 1) := by decide +kernel
theorem dX7_kindOf_8 : decode cX7_kindOf 8 = .ok (.ireturn, 1) := by decide +kernel
theorem dX7_weightOf_0 : decode cX7_weightOf 0 = .ok (.aload_n 0, 1) := by decide +kernel
theorem dX7_weightOf_1 : decode cX7_weightOf 1 = .ok (.getfield 7, 3) := by decide +kernel
theorem dX7_weightOf_4 : decode cX7_weightOf 4 = .ok (.bipush 23, 2) := by decide +kernel
theorem dX7_weightOf_6 : decode cX7_weightOf 6 = .ok (.iload_n 1, 1) := by decide +kernel
theorem dX7_weightOf_7 : decode cX7_weightOf 7 = .ok (.iadd, 1) := by decide +kernel
theorem dX7_weightOf_8 : decode cX7_weightOf 8 = .ok (.iaload, 1) := by decide +kernel
theorem dX7_weightOf_9 : decode cX7_weightOf 9 = .ok (.ireturn, 1) := by decide +kernel
theorem dX7_linkOf_0 : decode cX7_linkOf 0 = .ok (.aload_n 0, 1) := by decide +kernel
theorem dX7_linkOf_1 : decode cX7_linkOf 1 = .ok (.getfield 7, 3) := by decide +kernel
theorem dX7_linkOf_4 : decode cX7_linkOf 4 = .ok (.bipush 43, 2) := by decide +kernel
theorem dX7_linkOf_6 : decode cX7_linkOf 6 = .ok (.bipush 20, 2) := by decide +kernel
theorem dX7_linkOf_8 : decode cX7_linkOf 8 = .ok (.iload_n 1, 1) := by decide +kernel
theorem dX7_linkOf_9 : decode cX7_linkOf 9 = .ok (.imul, 1) := by decide +kernel
theorem dX7_linkOf_10 : decode cX7_linkOf 10 = .ok (.iadd, 1) := by decide +kernel
theorem dX7_linkOf_11 : decode cX7_linkOf 11 = .ok (.iload_n 2, 1) := by decide +kernel
theorem dX7_linkOf_12 : decode cX7_linkOf 12 = .ok (.iadd, 1) := by decide +kernel
theorem dX7_linkOf_13 : decode cX7_linkOf 13 = .ok (.iaload, 1) := by decide +kernel
theorem dX7_linkOf_14 : decode cX7_linkOf 14 = .ok (.iconst 1, 1) := by decide +kernel
theorem dX7_linkOf_15 : decode cX7_linkOf 15 = .ok (.isub, 1) := by decide +kernel
theorem dX7_linkOf_16 : decode cX7_linkOf 16 = .ok (.ireturn, 1) := by decide +kernel
theorem dX7_tests_0 : decode cX7_tests 0 = .ok (.iconst 0, 1) := by decide +kernel
theorem dX7_tests_1 : decode cX7_tests 1 = .ok (.istore_n 1, 1) := by decide +kernel
theorem dX7_tests_2 : decode cX7_tests 2 = .ok (.iconst 0, 1) := by decide +kernel
theorem dX7_tests_3 : decode cX7_tests 3 = .ok (.istore_n 2, 1) := by decide +kernel
theorem dX7_tests_4 : decode cX7_tests 4 = .ok (.iload_n 2, 1) := by decide +kernel
theorem dX7_tests_5 : decode cX7_tests 5 = .ok (.aload_n 0, 1) := by decide +kernel
theorem dX7_tests_6 : decode cX7_tests 6 = .ok (.getfield 7, 3) := by decide +kernel
theorem dX7_tests_9 : decode cX7_tests 9 = .ok (.iconst 0, 1) := by decide +kernel
theorem dX7_tests_10 : decode cX7_tests 10 = .ok (.iaload, 1) := by decide +kernel
theorem dX7_tests_11 : decode cX7_tests 11 = .ok (.if_icmp .ge 26, 3) := by decide +kernel
theorem dX7_tests_14 : decode cX7_tests 14 = .ok (.iload_n 1, 1) := by decide +kernel
theorem dX7_tests_15 : decode cX7_tests 15 = .ok (.aload_n 0, 1) := by decide +kernel
theorem dX7_tests_16 : decode cX7_tests 16 = .ok (.iload_n 2, 1) := by decide +kernel
theorem dX7_tests_17 : decode cX7_tests 17 = .ok (.invokevirtual 45, 3) := by decide +kernel
theorem dX7_tests_20 : decode cX7_tests 20 = .ok (.iconst 2, 1) := by decide +kernel
theorem dX7_tests_21 : decode cX7_tests 21 = .ok (.if_icmp .ne 7, 3) := by decide +kernel
theorem dX7_tests_24 : decode cX7_tests 24 = .ok (.iconst 1, 1) := by decide +kernel
theorem dX7_tests_25 : decode cX7_tests 25 = .ok (.goto 4, 3) := by decide +kernel
theorem dX7_tests_28 : decode cX7_tests 28 = .ok (.iconst 0, 1) := by decide +kernel
theorem dX7_tests_29 : decode cX7_tests 29 = .ok (.iadd, 1) := by decide +kernel
theorem dX7_tests_30 : decode cX7_tests 30 = .ok (.istore_n 1, 1) := by decide +kernel
theorem dX7_tests_31 : decode cX7_tests 31 = .ok (.iinc 2 1, 3) := by decide +kernel
theorem dX7_tests_34 : decode cX7_tests 34 = .ok (.goto (-30), 3) := by decide +kernel
theorem dX7_tests_37 : decode cX7_tests 37 = .ok (.iload_n 1, 1) := by decide +kernel
theorem dX7_tests_38 : decode cX7_tests 38 = .ok (.ireturn, 1) := by decide +kernel
theorem dX7_addTarget_0 : decode cX7_addTarget 0 = .ok (.iload_n 1, 1) := by decide +kernel
theorem dX7_addTarget_1 : decode cX7_addTarget 1 = .ok (.iconst 0, 1) := by decide +kernel
theorem dX7_addTarget_2 : decode cX7_addTarget 2 = .ok (.iconst 2, 1) := by decide +kernel
theorem dX7_addTarget_3 : decode cX7_addTarget 3 = .ok (.invokestatic 41, 3) := by decide +kernel
theorem dX7_addTarget_6 : decode cX7_addTarget 6 = .ok (.ifCond .eq 13, 3) := by decide +kernel
theorem dX7_addTarget_9 : decode cX7_addTarget 9 = .ok (.iload_n 2, 1) := by decide +kernel
theorem dX7_addTarget_10 : decode cX7_addTarget 10 = .ok (.iconst 1, 1) := by decide +kernel
theorem dX7_addTarget_11 : decode cX7_addTarget 11 = .ok (.bipush 100, 2) := by decide +kernel
theorem dX7_addTarget_13 : decode cX7_addTarget 13 = .ok (.invokestatic 41, 3) := by decide +kernel
theorem dX7_addTarget_16 : decode cX7_addTarget 16 = .ok (.ifCond .ne 6, 3) := by decide +kernel
theorem dX7_addTarget_19 : decode cX7_addTarget 19 = .ok (.bipush (-3), 2) := by decide +kernel
theorem dX7_addTarget_21 : decode cX7_addTarget 21 = .ok (.ireturn, 1) := by decide +kernel
theorem dX7_addTarget_22 : decode cX7_addTarget 22 = .ok (.aload_n 0, 1) := by decide +kernel
theorem dX7_addTarget_23 : decode cX7_addTarget 23 = .ok (.getfield 7, 3) := by decide +kernel
theorem dX7_addTarget_26 : decode cX7_addTarget 26 = .ok (.iconst 0, 1) := by decide +kernel
theorem dX7_addTarget_27 : decode cX7_addTarget 27 = .ok (.iaload, 1) := by decide +kernel
theorem dX7_addTarget_28 : decode cX7_addTarget 28 = .ok (.bipush 20, 2) := by decide +kernel
theorem dX7_addTarget_30 : decode cX7_addTarget 30 = .ok (.if_icmp .eq 17, 3) := by decide +kernel
theorem dX7_addTarget_33 : decode cX7_addTarget 33 = .ok (.iload_n 1, 1) := by decide +kernel
theorem dX7_addTarget_34 : decode cX7_addTarget 34 = .ok (.iconst 2, 1) := by decide +kernel
theorem dX7_addTarget_35 : decode cX7_addTarget 35 = .ok (.if_icmp .ne 15, 3) := by decide +kernel
theorem dX7_addTarget_38 : decode cX7_addTarget 38 = .ok (.aload_n 0, 1) := by decide +kernel
theorem dX7_addTarget_39 : decode cX7_addTarget 39 = .ok (.invokevirtual 49, 3) := by decide +kernel
theorem dX7_addTarget_42 : decode cX7_addTarget 42 = .ok (.bipush 10, 2) := by decide +kernel
theorem dX7_addTarget_44 : decode cX7_addTarget 44 = .ok (.if_icmp .ne 6, 3) := by decide +kernel
theorem dX7_addTarget_47 : decode cX7_addTarget 47 = .ok (.bipush (-8), 2) := by decide +kernel
theorem dX7_addTarget_49 : decode cX7_addTarget 49 = .ok (.ireturn, 1) := by decide +kernel
theorem dX7_addTarget_50 : decode cX7_addTarget 50 = .ok (.aload_n 0, 1) := by decide +kernel
theorem dX7_addTarget_51 : decode cX7_addTarget 51 = .ok (.getfield 7, 3) := by decide +kernel
theorem dX7_addTarget_54 : decode cX7_addTarget 54 = .ok (.iconst 0, 1) := by decide +kernel
theorem dX7_addTarget_55 : decode cX7_addTarget 55 = .ok (.iaload, 1) := by decide +kernel
theorem dX7_addTarget_56 : decode cX7_addTarget 56 = .ok (.istore_n 3, 1) := by decide +kernel
theorem dX7_addTarget_57 : decode cX7_addTarget 57 = .ok (.aload_n 0, 1) := by decide +kernel
theorem dX7_addTarget_58 : decode cX7_addTarget 58 = .ok (.getfield 7, 3) := by decide +kernel
theorem dX7_addTarget_61 : decode cX7_addTarget 61 = .ok (.iconst 3, 1) := by decide +kernel
theorem dX7_addTarget_62 : decode cX7_addTarget 62 = .ok (.iload_n 3, 1) := by decide +kernel
theorem dX7_addTarget_63 : decode cX7_addTarget 63 = .ok (.iadd, 1) := by decide +kernel
theorem dX7_addTarget_64 : decode cX7_addTarget 64 = .ok (.iload_n 1, 1) := by decide +kernel
theorem dX7_addTarget_65 : decode cX7_addTarget 65 = .ok (.iastore, 1) := by decide +kernel
theorem dX7_addTarget_66 : decode cX7_addTarget 66 = .ok (.aload_n 0, 1) := by decide +kernel
theorem dX7_addTarget_67 : decode cX7_addTarget 67 = .ok (.getfield 7, 3) := by decide +kernel
theorem dX7_addTarget_70 : decode cX7_addTarget 70 = .ok (.bipush 23, 2) := by decide +kernel
theorem dX7_addTarget_72 : decode cX7_addTarget 72 = .ok (.iload_n 3, 1) := by decide +kernel
theorem dX7_addTarget_73 : decode cX7_addTarget 73 = .ok (.iadd, 1) := by decide +kernel
theorem dX7_addTarget_74 : decode cX7_addTarget 74 = .ok (.iload_n 2, 1) := by decide +kernel
theorem dX7_addTarget_75 : decode cX7_addTarget 75 = .ok (.iastore, 1) := by decide +kernel
theorem dX7_addTarget_76 : decode cX7_addTarget 76 = .ok (.aload_n 0, 1) := by decide +kernel
theorem dX7_addTarget_77 : decode cX7_addTarget 77 = .ok (.getfield 7, 3) := by decide +kernel
theorem dX7_addTarget_80 : decode cX7_addTarget 80 = .ok (.iconst 0, 1) := by decide +kernel
theorem dX7_addTarget_81 : decode cX7_addTarget 81 = .ok (.dup2, 1) := by decide +kernel
theorem dX7_addTarget_82 : decode cX7_addTarget 82 = .ok (.iaload, 1) := by decide +kernel
theorem dX7_addTarget_83 : decode cX7_addTarget 83 = .ok (.iconst 1, 1) := by decide +kernel
theorem dX7_addTarget_84 : decode cX7_addTarget 84 = .ok (.iadd, 1) := by decide +kernel
theorem dX7_addTarget_85 : decode cX7_addTarget 85 = .ok (.iastore, 1) := by decide +kernel
theorem dX7_addTarget_86 : decode cX7_addTarget 86 = .ok (.iload_n 3, 1) := by decide +kernel
theorem dX7_addTarget_87 : decode cX7_addTarget 87 = .ok (.ireturn, 1) := by decide +kernel
theorem dX7_targetCount_0 : decode cX7_targetCount 0 = .ok (.aload_n 0, 1) := by decide +kernel
theorem dX7_targetCount_1 : decode cX7_targetCount 1 = .ok (.getfield 7, 3) := by decide +kernel
theorem dX7_targetCount_4 : decode cX7_targetCount 4 = .ok (.iconst 0, 1) := by decide +kernel
theorem dX7_targetCount_5 : decode cX7_targetCount 5 = .ok (.iaload, 1) := by decide +kernel
theorem dX7_targetCount_6 : decode cX7_targetCount 6 = .ok (.ireturn, 1) := by decide +kernel
theorem dX7_reachOf_0 : decode cX7_reachOf 0 = .ok (.iconst 1, 1) := by decide +kernel
theorem dX7_reachOf_1 : decode cX7_reachOf 1 = .ok (.iload_n 1, 1) := by decide +kernel
theorem dX7_reachOf_2 : decode cX7_reachOf 2 = .ok (.ishl, 1) := by decide +kernel
theorem dX7_reachOf_3 : decode cX7_reachOf 3 = .ok (.istore_n 3, 1) := by decide +kernel
theorem dX7_reachOf_4 : decode cX7_reachOf 4 = .ok (.iconst 1, 1) := by decide +kernel
theorem dX7_reachOf_5 : decode cX7_reachOf 5 = .ok (.istore 4, 2) := by decide +kernel
theorem dX7_reachOf_7 : decode cX7_reachOf 7 = .ok (.iload 4, 2) := by decide +kernel
theorem dX7_reachOf_9 : decode cX7_reachOf 9 = .ok (.ifCond .eq 131, 3) := by decide +kernel
theorem dX7_reachOf_12 : decode cX7_reachOf 12 = .ok (.iconst 0, 1) := by decide +kernel
theorem dX7_reachOf_13 : decode cX7_reachOf 13 = .ok (.istore 4, 2) := by decide +kernel
theorem dX7_reachOf_15 : decode cX7_reachOf 15 = .ok (.iconst 0, 1) := by decide +kernel
theorem dX7_reachOf_16 : decode cX7_reachOf 16 = .ok (.istore 5, 2) := by decide +kernel
theorem dX7_reachOf_18 : decode cX7_reachOf 18 = .ok (.iload 5, 2) := by decide +kernel
theorem dX7_reachOf_20 : decode cX7_reachOf 20 = .ok (.aload_n 0, 1) := by decide +kernel
theorem dX7_reachOf_21 : decode cX7_reachOf 21 = .ok (.getfield 7, 3) := by decide +kernel
theorem dX7_reachOf_24 : decode cX7_reachOf 24 = .ok (.iconst 0, 1) := by decide +kernel
theorem dX7_reachOf_25 : decode cX7_reachOf 25 = .ok (.iaload, 1) := by decide +kernel
theorem dX7_reachOf_26 : decode cX7_reachOf 26 = .ok (.if_icmp .ge 111, 3) := by decide +kernel
theorem dX7_reachOf_29 : decode cX7_reachOf 29 = .ok (.iconst 0, 1) := by decide +kernel
theorem dX7_reachOf_30 : decode cX7_reachOf 30 = .ok (.istore 6, 2) := by decide +kernel
theorem dX7_reachOf_32 : decode cX7_reachOf 32 = .ok (.iload 6, 2) := by decide +kernel
theorem dX7_reachOf_34 : decode cX7_reachOf 34 = .ok (.aload_n 0, 1) := by decide +kernel
theorem dX7_reachOf_35 : decode cX7_reachOf 35 = .ok (.getfield 7, 3) := by decide +kernel
theorem dX7_reachOf_38 : decode cX7_reachOf 38 = .ok (.iconst 0, 1) := by decide +kernel
theorem dX7_reachOf_39 : decode cX7_reachOf 39 = .ok (.iaload, 1) := by decide +kernel
theorem dX7_reachOf_40 : decode cX7_reachOf 40 = .ok (.if_icmp .ge 91, 3) := by decide +kernel
theorem dX7_reachOf_43 : decode cX7_reachOf 43 = .ok (.iload_n 3, 1) := by decide +kernel
theorem dX7_reachOf_44 : decode cX7_reachOf 44 = .ok (.iload 5, 2) := by decide +kernel
theorem dX7_reachOf_46 : decode cX7_reachOf 46 = .ok (.ishr, 1) := by decide +kernel
theorem dX7_reachOf_47 : decode cX7_reachOf 47 = .ok (.iconst 1, 1) := by decide +kernel
theorem dX7_reachOf_48 : decode cX7_reachOf 48 = .ok (.iand, 1) := by decide +kernel
theorem dX7_reachOf_49 : decode cX7_reachOf 49 = .ok (.iconst 1, 1) := by decide +kernel
theorem dX7_reachOf_50 : decode cX7_reachOf 50 = .ok (.if_icmp .ne 39, 3) := by decide +kernel
theorem dX7_reachOf_53 : decode cX7_reachOf 53 = .ok (.iload_n 3, 1) := by decide +kernel
theorem dX7_reachOf_54 : decode cX7_reachOf 54 = .ok (.iload 6, 2) := by decide +kernel
theorem dX7_reachOf_56 : decode cX7_reachOf 56 = .ok (.ishr, 1) := by decide +kernel
theorem dX7_reachOf_57 : decode cX7_reachOf 57 = .ok (.iconst 1, 1) := by decide +kernel
theorem dX7_reachOf_58 : decode cX7_reachOf 58 = .ok (.iand, 1) := by decide +kernel
theorem dX7_reachOf_59 : decode cX7_reachOf 59 = .ok (.ifCond .ne 30, 3) := by decide +kernel
theorem dX7_reachOf_62 : decode cX7_reachOf 62 = .ok (.aload_n 0, 1) := by decide +kernel
theorem dX7_reachOf_63 : decode cX7_reachOf 63 = .ok (.iload 5, 2) := by decide +kernel
theorem dX7_reachOf_65 : decode cX7_reachOf 65 = .ok (.iload 6, 2) := by decide +kernel
theorem dX7_reachOf_67 : decode cX7_reachOf 67 = .ok (.invokevirtual 53, 3) := by decide +kernel
theorem dX7_reachOf_70 : decode cX7_reachOf 70 = .ok (.ifCond .lt 19, 3) := by decide +kernel
theorem dX7_reachOf_73 : decode cX7_reachOf 73 = .ok (.aload_n 0, 1) := by decide +kernel
theorem dX7_reachOf_74 : decode cX7_reachOf 74 = .ok (.iload 5, 2) := by decide +kernel
theorem dX7_reachOf_76 : decode cX7_reachOf 76 = .ok (.iload 6, 2) := by decide +kernel
theorem dX7_reachOf_78 : decode cX7_reachOf 78 = .ok (.invokevirtual 53, 3) := by decide +kernel
theorem dX7_reachOf_81 : decode cX7_reachOf 81 = .ok (.iload_n 2, 1) := by decide +kernel
theorem dX7_reachOf_82 : decode cX7_reachOf 82 = .ok (.if_icmp .eq 7, 3) := by decide +kernel
theorem dX7_reachOf_85 : decode cX7_reachOf 85 = .ok (.iconst 1, 1) := by decide +kernel
theorem dX7_reachOf_86 : decode cX7_reachOf 86 = .ok (.goto 4, 3) := by decide +kernel
theorem dX7_reachOf_89 : decode cX7_reachOf 89 = .ok (.iconst 0, 1) := by decide +kernel
theorem dX7_reachOf_90 : decode cX7_reachOf 90 = .ok (.istore 7, 2) := by decide +kernel
theorem dX7_reachOf_92 : decode cX7_reachOf 92 = .ok (.iload_n 3, 1) := by decide +kernel
theorem dX7_reachOf_93 : decode cX7_reachOf 93 = .ok (.iload 7, 2) := by decide +kernel
theorem dX7_reachOf_95 : decode cX7_reachOf 95 = .ok (.ifCond .eq 10, 3) := by decide +kernel
theorem dX7_reachOf_98 : decode cX7_reachOf 98 = .ok (.iconst 1, 1) := by decide +kernel
theorem dX7_reachOf_99 : decode cX7_reachOf 99 = .ok (.iload 6, 2) := by decide +kernel
theorem dX7_reachOf_101 : decode cX7_reachOf 101 = .ok (.ishl, 1) := by decide +kernel
theorem dX7_reachOf_102 : decode cX7_reachOf 102 = .ok (.goto 4, 3) := by decide +kernel
theorem dX7_reachOf_105 : decode cX7_reachOf 105 = .ok (.iconst 0, 1) := by decide +kernel
theorem dX7_reachOf_106 : decode cX7_reachOf 106 = .ok (.ior, 1) := by decide +kernel
theorem dX7_reachOf_107 : decode cX7_reachOf 107 = .ok (.istore_n 3, 1) := by decide +kernel
theorem dX7_reachOf_108 : decode cX7_reachOf 108 = .ok (.iload 4, 2) := by decide +kernel
theorem dX7_reachOf_110 : decode cX7_reachOf 110 = .ok (.ifCond .ne 8, 3) := by decide +kernel
theorem dX7_reachOf_113 : decode cX7_reachOf 113 = .ok (.iload 7, 2) := by decide +kernel
theorem dX7_reachOf_115 : decode cX7_reachOf 115 = .ok (.ifCond .eq 7, 3) := by decide +kernel
theorem dX7_reachOf_118 : decode cX7_reachOf 118 = .ok (.iconst 1, 1) := by decide +kernel
theorem dX7_reachOf_119 : decode cX7_reachOf 119 = .ok (.goto 4, 3) := by decide +kernel
theorem dX7_reachOf_122 : decode cX7_reachOf 122 = .ok (.iconst 0, 1) := by decide +kernel
theorem dX7_reachOf_123 : decode cX7_reachOf 123 = .ok (.istore 4, 2) := by decide +kernel
theorem dX7_reachOf_125 : decode cX7_reachOf 125 = .ok (.iinc 6 1, 3) := by decide +kernel
theorem dX7_reachOf_128 : decode cX7_reachOf 128 = .ok (.goto (-96), 3) := by decide +kernel
theorem dX7_reachOf_131 : decode cX7_reachOf 131 = .ok (.iinc 5 1, 3) := by decide +kernel
theorem dX7_reachOf_134 : decode cX7_reachOf 134 = .ok (.goto (-116), 3) := by decide +kernel
theorem dX7_reachOf_137 : decode cX7_reachOf 137 = .ok (.goto (-130), 3) := by decide +kernel
theorem dX7_reachOf_140 : decode cX7_reachOf 140 = .ok (.iload_n 3, 1) := by decide +kernel
theorem dX7_reachOf_141 : decode cX7_reachOf 141 = .ok (.ireturn, 1) := by decide +kernel
theorem dX7_addDependency_0 : decode cX7_addDependency 0 = .ok (.aload_n 0, 1) := by decide +kernel
theorem dX7_addDependency_1 : decode cX7_addDependency 1 = .ok (.iload_n 1, 1) := by decide +kernel
theorem dX7_addDependency_2 : decode cX7_addDependency 2 = .ok (.invokevirtual 57, 3) := by decide +kernel
theorem dX7_addDependency_5 : decode cX7_addDependency 5 = .ok (.ifCond .eq 11, 3) := by decide +kernel
theorem dX7_addDependency_8 : decode cX7_addDependency 8 = .ok (.aload_n 0, 1) := by decide +kernel
theorem dX7_addDependency_9 : decode cX7_addDependency 9 = .ok (.iload_n 2, 1) := by decide +kernel
theorem dX7_addDependency_10 : decode cX7_addDependency 10 = .ok (.invokevirtual 57, 3) := by decide +kernel
theorem dX7_addDependency_13 : decode cX7_addDependency 13 = .ok (.ifCond .ne 5, 3) := by decide +kernel
theorem dX7_addDependency_16 : decode cX7_addDependency 16 = .ok (.iconst (-1), 1) := by decide +kernel
theorem dX7_addDependency_17 : decode cX7_addDependency 17 = .ok (.ireturn, 1) := by decide +kernel
theorem dX7_addDependency_18 : decode cX7_addDependency 18 = .ok (.iload_n 1, 1) := by decide +kernel
theorem dX7_addDependency_19 : decode cX7_addDependency 19 = .ok (.iload_n 2, 1) := by decide +kernel
theorem dX7_addDependency_20 : decode cX7_addDependency 20 = .ok (.if_icmp .ne 6, 3) := by decide +kernel
theorem dX7_addDependency_23 : decode cX7_addDependency 23 = .ok (.bipush (-4), 2) := by decide +kernel
theorem dX7_addDependency_25 : decode cX7_addDependency 25 = .ok (.ireturn, 1) := by decide +kernel
theorem dX7_addDependency_26 : decode cX7_addDependency 26 = .ok (.iload_n 3, 1) := by decide +kernel
theorem dX7_addDependency_27 : decode cX7_addDependency 27 = .ok (.iconst 0, 1) := by decide +kernel
theorem dX7_addDependency_28 : decode cX7_addDependency 28 = .ok (.iconst 3, 1) := by decide +kernel
theorem dX7_addDependency_29 : decode cX7_addDependency 29 = .ok (.invokestatic 41, 3) := by decide +kernel
theorem dX7_addDependency_32 : decode cX7_addDependency 32 = .ok (.ifCond .ne 6, 3) := by decide +kernel
theorem dX7_addDependency_35 : decode cX7_addDependency 35 = .ok (.bipush (-3), 2) := by decide +kernel
theorem dX7_addDependency_37 : decode cX7_addDependency 37 = .ok (.ireturn, 1) := by decide +kernel
theorem dX7_addDependency_38 : decode cX7_addDependency 38 = .ok (.aload_n 0, 1) := by decide +kernel
theorem dX7_addDependency_39 : decode cX7_addDependency 39 = .ok (.iload_n 2, 1) := by decide +kernel
theorem dX7_addDependency_40 : decode cX7_addDependency 40 = .ok (.invokevirtual 45, 3) := by decide +kernel
theorem dX7_addDependency_43 : decode cX7_addDependency 43 = .ok (.iconst 2, 1) := by decide +kernel
theorem dX7_addDependency_44 : decode cX7_addDependency 44 = .ok (.if_icmp .eq 31, 3) := by decide +kernel
theorem dX7_addDependency_47 : decode cX7_addDependency 47 = .ok (.iload_n 3, 1) := by decide +kernel
theorem dX7_addDependency_48 : decode cX7_addDependency 48 = .ok (.iconst 2, 1) := by decide +kernel
theorem dX7_addDependency_49 : decode cX7_addDependency 49 = .ok (.if_icmp .ne 12, 3) := by decide +kernel
theorem dX7_addDependency_52 : decode cX7_addDependency 52 = .ok (.aload_n 0, 1) := by decide +kernel
theorem dX7_addDependency_53 : decode cX7_addDependency 53 = .ok (.iload_n 2, 1) := by decide +kernel
theorem dX7_addDependency_54 : decode cX7_addDependency 54 = .ok (.invokevirtual 45, 3) := by decide +kernel
theorem dX7_addDependency_57 : decode cX7_addDependency 57 = .ok (.iconst 1, 1) := by decide +kernel
theorem dX7_addDependency_58 : decode cX7_addDependency 58 = .ok (.if_icmp .ne 17, 3) := by decide +kernel
theorem dX7_addDependency_61 : decode cX7_addDependency 61 = .ok (.iload_n 3, 1) := by decide +kernel
theorem dX7_addDependency_62 : decode cX7_addDependency 62 = .ok (.iconst 3, 1) := by decide +kernel
theorem dX7_addDependency_63 : decode cX7_addDependency 63 = .ok (.if_icmp .ne 15, 3) := by decide +kernel
theorem dX7_addDependency_66 : decode cX7_addDependency 66 = .ok (.aload_n 0, 1) := by decide +kernel
theorem dX7_addDependency_67 : decode cX7_addDependency 67 = .ok (.iload_n 1, 1) := by decide +kernel
theorem dX7_addDependency_68 : decode cX7_addDependency 68 = .ok (.invokevirtual 45, 3) := by decide +kernel
theorem dX7_addDependency_71 : decode cX7_addDependency 71 = .ok (.iconst 2, 1) := by decide +kernel
theorem dX7_addDependency_72 : decode cX7_addDependency 72 = .ok (.if_icmp .eq 6, 3) := by decide +kernel
theorem dX7_addDependency_75 : decode cX7_addDependency 75 = .ok (.bipush (-5), 2) := by decide +kernel
theorem dX7_addDependency_77 : decode cX7_addDependency 77 = .ok (.ireturn, 1) := by decide +kernel
theorem dX7_addDependency_78 : decode cX7_addDependency 78 = .ok (.aload_n 0, 1) := by decide +kernel
theorem dX7_addDependency_79 : decode cX7_addDependency 79 = .ok (.iload_n 1, 1) := by decide +kernel
theorem dX7_addDependency_80 : decode cX7_addDependency 80 = .ok (.iload_n 2, 1) := by decide +kernel
theorem dX7_addDependency_81 : decode cX7_addDependency 81 = .ok (.invokevirtual 53, 3) := by decide +kernel
theorem dX7_addDependency_84 : decode cX7_addDependency 84 = .ok (.ifCond .lt 6, 3) := by decide +kernel
theorem dX7_addDependency_87 : decode cX7_addDependency 87 = .ok (.bipush (-6), 2) := by decide +kernel
theorem dX7_addDependency_89 : decode cX7_addDependency 89 = .ok (.ireturn, 1) := by decide +kernel
theorem dX7_addDependency_90 : decode cX7_addDependency 90 = .ok (.aload_n 0, 1) := by decide +kernel
theorem dX7_addDependency_91 : decode cX7_addDependency 91 = .ok (.iload_n 2, 1) := by decide +kernel
theorem dX7_addDependency_92 : decode cX7_addDependency 92 = .ok (.bipush (-10), 2) := by decide +kernel
theorem dX7_addDependency_94 : decode cX7_addDependency 94 = .ok (.invokevirtual 61, 3) := by decide +kernel
theorem dX7_addDependency_97 : decode cX7_addDependency 97 = .ok (.iload_n 1, 1) := by decide +kernel
theorem dX7_addDependency_98 : decode cX7_addDependency 98 = .ok (.ishr, 1) := by decide +kernel
theorem dX7_addDependency_99 : decode cX7_addDependency 99 = .ok (.iconst 1, 1) := by decide +kernel
theorem dX7_addDependency_100 : decode cX7_addDependency 100 = .ok (.iand, 1) := by decide +kernel
theorem dX7_addDependency_101 : decode cX7_addDependency 101 = .ok (.iconst 1, 1) := by decide +kernel
theorem dX7_addDependency_102 : decode cX7_addDependency 102 = .ok (.if_icmp .ne 6, 3) := by decide +kernel
theorem dX7_addDependency_105 : decode cX7_addDependency 105 = .ok (.bipush (-7), 2) := by decide +kernel
theorem dX7_addDependency_107 : decode cX7_addDependency 107 = .ok (.ireturn, 1) := by decide +kernel
theorem dX7_addDependency_108 : decode cX7_addDependency 108 = .ok (.aload_n 0, 1) := by decide +kernel
theorem dX7_addDependency_109 : decode cX7_addDependency 109 = .ok (.getfield 7, 3) := by decide +kernel
theorem dX7_addDependency_112 : decode cX7_addDependency 112 = .ok (.iconst 1, 1) := by decide +kernel
theorem dX7_addDependency_113 : decode cX7_addDependency 113 = .ok (.iaload, 1) := by decide +kernel
theorem dX7_addDependency_114 : decode cX7_addDependency 114 = .ok (.bipush 60, 2) := by decide +kernel
theorem dX7_addDependency_116 : decode cX7_addDependency 116 = .ok (.if_icmp .ne 6, 3) := by decide +kernel
theorem dX7_addDependency_119 : decode cX7_addDependency 119 = .ok (.bipush (-8), 2) := by decide +kernel
theorem dX7_addDependency_121 : decode cX7_addDependency 121 = .ok (.ireturn, 1) := by decide +kernel
theorem dX7_addDependency_122 : decode cX7_addDependency 122 = .ok (.aload_n 0, 1) := by decide +kernel
theorem dX7_addDependency_123 : decode cX7_addDependency 123 = .ok (.getfield 7, 3) := by decide +kernel
theorem dX7_addDependency_126 : decode cX7_addDependency 126 = .ok (.bipush 43, 2) := by decide +kernel
theorem dX7_addDependency_128 : decode cX7_addDependency 128 = .ok (.bipush 20, 2) := by decide +kernel
theorem dX7_addDependency_130 : decode cX7_addDependency 130 = .ok (.iload_n 1, 1) := by decide +kernel
theorem dX7_addDependency_131 : decode cX7_addDependency 131 = .ok (.imul, 1) := by decide +kernel
theorem dX7_addDependency_132 : decode cX7_addDependency 132 = .ok (.iadd, 1) := by decide +kernel
theorem dX7_addDependency_133 : decode cX7_addDependency 133 = .ok (.iload_n 2, 1) := by decide +kernel
theorem dX7_addDependency_134 : decode cX7_addDependency 134 = .ok (.iadd, 1) := by decide +kernel
theorem dX7_addDependency_135 : decode cX7_addDependency 135 = .ok (.iload_n 3, 1) := by decide +kernel
theorem dX7_addDependency_136 : decode cX7_addDependency 136 = .ok (.iconst 1, 1) := by decide +kernel
theorem dX7_addDependency_137 : decode cX7_addDependency 137 = .ok (.iadd, 1) := by decide +kernel
theorem dX7_addDependency_138 : decode cX7_addDependency 138 = .ok (.iastore, 1) := by decide +kernel
theorem dX7_addDependency_139 : decode cX7_addDependency 139 = .ok (.aload_n 0, 1) := by decide +kernel
theorem dX7_addDependency_140 : decode cX7_addDependency 140 = .ok (.getfield 7, 3) := by decide +kernel
theorem dX7_addDependency_143 : decode cX7_addDependency 143 = .ok (.iconst 1, 1) := by decide +kernel
theorem dX7_addDependency_144 : decode cX7_addDependency 144 = .ok (.dup2, 1) := by decide +kernel
theorem dX7_addDependency_145 : decode cX7_addDependency 145 = .ok (.iaload, 1) := by decide +kernel
theorem dX7_addDependency_146 : decode cX7_addDependency 146 = .ok (.iconst 1, 1) := by decide +kernel
theorem dX7_addDependency_147 : decode cX7_addDependency 147 = .ok (.iadd, 1) := by decide +kernel
theorem dX7_addDependency_148 : decode cX7_addDependency 148 = .ok (.iastore, 1) := by decide +kernel
theorem dX7_addDependency_149 : decode cX7_addDependency 149 = .ok (.aload_n 0, 1) := by decide +kernel
theorem dX7_addDependency_150 : decode cX7_addDependency 150 = .ok (.getfield 7, 3) := by decide +kernel
theorem dX7_addDependency_153 : decode cX7_addDependency 153 = .ok (.iconst 1, 1) := by decide +kernel
theorem dX7_addDependency_154 : decode cX7_addDependency 154 = .ok (.iaload, 1) := by decide +kernel
theorem dX7_addDependency_155 : decode cX7_addDependency 155 = .ok (.ireturn, 1) := by decide +kernel
theorem dX7_removeDependency_0 : decode cX7_removeDependency 0 = .ok (.aload_n 0, 1) := by decide +kernel
theorem dX7_removeDependency_1 : decode cX7_removeDependency 1 = .ok (.iload_n 1, 1) := by decide +kernel
theorem dX7_removeDependency_2 : decode cX7_removeDependency 2 = .ok (.invokevirtual 57, 3) := by decide +kernel
theorem dX7_removeDependency_5 : decode cX7_removeDependency 5 = .ok (.ifCond .eq 11, 3) := by decide +kernel
theorem dX7_removeDependency_8 : decode cX7_removeDependency 8 = .ok (.aload_n 0, 1) := by decide +kernel
theorem dX7_removeDependency_9 : decode cX7_removeDependency 9 = .ok (.iload_n 2, 1) := by decide +kernel
theorem dX7_removeDependency_10 : decode cX7_removeDependency 10 = .ok (.invokevirtual 57, 3) := by decide +kernel
theorem dX7_removeDependency_13 : decode cX7_removeDependency 13 = .ok (.ifCond .ne 5, 3) := by decide +kernel
theorem dX7_removeDependency_16 : decode cX7_removeDependency 16 = .ok (.iconst (-1), 1) := by decide +kernel
theorem dX7_removeDependency_17 : decode cX7_removeDependency 17 = .ok (.ireturn, 1) := by decide +kernel
theorem dX7_removeDependency_18 : decode cX7_removeDependency 18 = .ok (.aload_n 0, 1) := by decide +kernel
theorem dX7_removeDependency_19 : decode cX7_removeDependency 19 = .ok (.iload_n 1, 1) := by decide +kernel
theorem dX7_removeDependency_20 : decode cX7_removeDependency 20 = .ok (.iload_n 2, 1) := by decide +kernel
theorem dX7_removeDependency_21 : decode cX7_removeDependency 21 = .ok (.invokevirtual 53, 3) := by decide +kernel
theorem dX7_removeDependency_24 : decode cX7_removeDependency 24 = .ok (.istore_n 3, 1) := by decide +kernel
theorem dX7_removeDependency_25 : decode cX7_removeDependency 25 = .ok (.iload_n 3, 1) := by decide +kernel
theorem dX7_removeDependency_26 : decode cX7_removeDependency 26 = .ok (.ifCond .ge 6, 3) := by decide +kernel
theorem dX7_removeDependency_29 : decode cX7_removeDependency 29 = .ok (.bipush (-10), 2) := by decide +kernel
theorem dX7_removeDependency_31 : decode cX7_removeDependency 31 = .ok (.ireturn, 1) := by decide +kernel
theorem dX7_removeDependency_32 : decode cX7_removeDependency 32 = .ok (.aload_n 0, 1) := by decide +kernel
theorem dX7_removeDependency_33 : decode cX7_removeDependency 33 = .ok (.getfield 7, 3) := by decide +kernel
theorem dX7_removeDependency_36 : decode cX7_removeDependency 36 = .ok (.bipush 43, 2) := by decide +kernel
theorem dX7_removeDependency_38 : decode cX7_removeDependency 38 = .ok (.bipush 20, 2) := by decide +kernel
theorem dX7_removeDependency_40 : decode cX7_removeDependency 40 = .ok (.iload_n 1, 1) := by decide +kernel
theorem dX7_removeDependency_41 : decode cX7_removeDependency 41 = .ok (.imul, 1) := by decide +kernel
theorem dX7_removeDependency_42 : decode cX7_removeDependency 42 = .ok (.iadd, 1) := by decide +kernel
theorem dX7_removeDependency_43 : decode cX7_removeDependency 43 = .ok (.iload_n 2, 1) := by decide +kernel
theorem dX7_removeDependency_44 : decode cX7_removeDependency 44 = .ok (.iadd, 1) := by decide +kernel
theorem dX7_removeDependency_45 : decode cX7_removeDependency 45 = .ok (.iconst 0, 1) := by decide +kernel
theorem dX7_removeDependency_46 : decode cX7_removeDependency 46 = .ok (.iastore, 1) := by decide +kernel
theorem dX7_removeDependency_47 : decode cX7_removeDependency 47 = .ok (.aload_n 0, 1) := by decide +kernel
theorem dX7_removeDependency_48 : decode cX7_removeDependency 48 = .ok (.getfield 7, 3) := by decide +kernel
theorem dX7_removeDependency_51 : decode cX7_removeDependency 51 = .ok (.iconst 1, 1) := by decide +kernel
theorem dX7_removeDependency_52 : decode cX7_removeDependency 52 = .ok (.dup2, 1) := by decide +kernel
theorem dX7_removeDependency_53 : decode cX7_removeDependency 53 = .ok (.iaload, 1) := by decide +kernel
theorem dX7_removeDependency_54 : decode cX7_removeDependency 54 = .ok (.iconst 1, 1) := by decide +kernel
theorem dX7_removeDependency_55 : decode cX7_removeDependency 55 = .ok (.isub, 1) := by decide +kernel
theorem dX7_removeDependency_56 : decode cX7_removeDependency 56 = .ok (.iastore, 1) := by decide +kernel
theorem dX7_removeDependency_57 : decode cX7_removeDependency 57 = .ok (.iload_n 3, 1) := by decide +kernel
theorem dX7_removeDependency_58 : decode cX7_removeDependency 58 = .ok (.ireturn, 1) := by decide +kernel
theorem dX7_at_0 : decode cX7_at 0 = .ok (.sipush 443, 3) := by decide +kernel
theorem dX7_at_3 : decode cX7_at 3 = .ok (.iconst 3, 1) := by decide +kernel
theorem dX7_at_4 : decode cX7_at 4 = .ok (.iload_n 0, 1) := by decide +kernel
theorem dX7_at_5 : decode cX7_at 5 = .ok (.imul, 1) := by decide +kernel
theorem dX7_at_6 : decode cX7_at 6 = .ok (.iadd, 1) := by decide +kernel
theorem dX7_at_7 : decode cX7_at 7 = .ok (.ireturn, 1) := by decide +kernel
theorem dX7_isFile_0 : decode cX7_isFile 0 = .ok (.iload_n 1, 1) := by decide +kernel
theorem dX7_isFile_1 : decode cX7_isFile 1 = .ok (.iconst 0, 1) := by decide +kernel
theorem dX7_isFile_2 : decode cX7_isFile 2 = .ok (.aload_n 0, 1) := by decide +kernel
theorem dX7_isFile_3 : decode cX7_isFile 3 = .ok (.getfield 7, 3) := by decide +kernel
theorem dX7_isFile_6 : decode cX7_isFile 6 = .ok (.iconst 2, 1) := by decide +kernel
theorem dX7_isFile_7 : decode cX7_isFile 7 = .ok (.iaload, 1) := by decide +kernel
theorem dX7_isFile_8 : decode cX7_isFile 8 = .ok (.iconst 1, 1) := by decide +kernel
theorem dX7_isFile_9 : decode cX7_isFile 9 = .ok (.isub, 1) := by decide +kernel
theorem dX7_isFile_10 : decode cX7_isFile 10 = .ok (.invokestatic 41, 3) := by decide +kernel
theorem dX7_isFile_13 : decode cX7_isFile 13 = .ok (.ifCond .eq 19, 3) := by decide +kernel
theorem dX7_isFile_16 : decode cX7_isFile 16 = .ok (.aload_n 0, 1) := by decide +kernel
theorem dX7_isFile_17 : decode cX7_isFile 17 = .ok (.getfield 7, 3) := by decide +kernel
theorem dX7_isFile_20 : decode cX7_isFile 20 = .ok (.iload_n 1, 1) := by decide +kernel
theorem dX7_isFile_21 : decode cX7_isFile 21 = .ok (.invokestatic 64, 3) := by decide +kernel
theorem dX7_isFile_24 : decode cX7_isFile 24 = .ok (.iaload, 1) := by decide +kernel
theorem dX7_isFile_25 : decode cX7_isFile 25 = .ok (.ifCond .lt 7, 3) := by decide +kernel
theorem dX7_isFile_28 : decode cX7_isFile 28 = .ok (.iconst 1, 1) := by decide +kernel
theorem dX7_isFile_29 : decode cX7_isFile 29 = .ok (.goto 4, 3) := by decide +kernel
theorem dX7_isFile_32 : decode cX7_isFile 32 = .ok (.iconst 0, 1) := by decide +kernel
theorem dX7_isFile_33 : decode cX7_isFile 33 = .ok (.ireturn, 1) := by decide +kernel
theorem dX7_isNamed_0 : decode cX7_isNamed 0 = .ok (.iconst 0, 1) := by decide +kernel
theorem dX7_isNamed_1 : decode cX7_isNamed 1 = .ok (.istore_n 2, 1) := by decide +kernel
theorem dX7_isNamed_2 : decode cX7_isNamed 2 = .ok (.iconst 0, 1) := by decide +kernel
theorem dX7_isNamed_3 : decode cX7_isNamed 3 = .ok (.istore_n 3, 1) := by decide +kernel
theorem dX7_isNamed_4 : decode cX7_isNamed 4 = .ok (.iload_n 3, 1) := by decide +kernel
theorem dX7_isNamed_5 : decode cX7_isNamed 5 = .ok (.aload_n 0, 1) := by decide +kernel
theorem dX7_isNamed_6 : decode cX7_isNamed 6 = .ok (.getfield 7, 3) := by decide +kernel
theorem dX7_isNamed_9 : decode cX7_isNamed 9 = .ok (.iconst 2, 1) := by decide +kernel
theorem dX7_isNamed_10 : decode cX7_isNamed 10 = .ok (.iaload, 1) := by decide +kernel
theorem dX7_isNamed_11 : decode cX7_isNamed 11 = .ok (.if_icmp .ge 42, 3) := by decide +kernel
theorem dX7_isNamed_14 : decode cX7_isNamed 14 = .ok (.iload_n 2, 1) := by decide +kernel
theorem dX7_isNamed_15 : decode cX7_isNamed 15 = .ok (.ifCond .ne 26, 3) := by decide +kernel
theorem dX7_isNamed_18 : decode cX7_isNamed 18 = .ok (.aload_n 0, 1) := by decide +kernel
theorem dX7_isNamed_19 : decode cX7_isNamed 19 = .ok (.iload_n 3, 1) := by decide +kernel
theorem dX7_isNamed_20 : decode cX7_isNamed 20 = .ok (.invokevirtual 67, 3) := by decide +kernel
theorem dX7_isNamed_23 : decode cX7_isNamed 23 = .ok (.ifCond .eq 22, 3) := by decide +kernel
theorem dX7_isNamed_26 : decode cX7_isNamed 26 = .ok (.aload_n 0, 1) := by decide +kernel
theorem dX7_isNamed_27 : decode cX7_isNamed 27 = .ok (.getfield 7, 3) := by decide +kernel
theorem dX7_isNamed_30 : decode cX7_isNamed 30 = .ok (.iload_n 3, 1) := by decide +kernel
theorem dX7_isNamed_31 : decode cX7_isNamed 31 = .ok (.invokestatic 64, 3) := by decide +kernel
theorem dX7_isNamed_34 : decode cX7_isNamed 34 = .ok (.iconst 2, 1) := by decide +kernel
theorem dX7_isNamed_35 : decode cX7_isNamed 35 = .ok (.iadd, 1) := by decide +kernel
theorem dX7_isNamed_36 : decode cX7_isNamed 36 = .ok (.iaload, 1) := by decide +kernel
theorem dX7_isNamed_37 : decode cX7_isNamed 37 = .ok (.iload_n 1, 1) := by decide +kernel
theorem dX7_isNamed_38 : decode cX7_isNamed 38 = .ok (.if_icmp .ne 7, 3) := by decide +kernel
theorem dX7_isNamed_41 : decode cX7_isNamed 41 = .ok (.iconst 1, 1) := by decide +kernel
theorem dX7_isNamed_42 : decode cX7_isNamed 42 = .ok (.goto 4, 3) := by decide +kernel
theorem dX7_isNamed_45 : decode cX7_isNamed 45 = .ok (.iconst 0, 1) := by decide +kernel
theorem dX7_isNamed_46 : decode cX7_isNamed 46 = .ok (.istore_n 2, 1) := by decide +kernel
theorem dX7_isNamed_47 : decode cX7_isNamed 47 = .ok (.iinc 3 1, 3) := by decide +kernel
theorem dX7_isNamed_50 : decode cX7_isNamed 50 = .ok (.goto (-46), 3) := by decide +kernel
theorem dX7_isNamed_53 : decode cX7_isNamed 53 = .ok (.iload_n 2, 1) := by decide +kernel
theorem dX7_isNamed_54 : decode cX7_isNamed 54 = .ok (.ireturn, 1) := by decide +kernel
theorem dX7_touch_0 : decode cX7_touch 0 = .ok (.aload_n 0, 1) := by decide +kernel
theorem dX7_touch_1 : decode cX7_touch 1 = .ok (.getfield 7, 3) := by decide +kernel
theorem dX7_touch_4 : decode cX7_touch 4 = .ok (.iload_n 2, 1) := by decide +kernel
theorem dX7_touch_5 : decode cX7_touch 5 = .ok (.invokestatic 64, 3) := by decide +kernel
theorem dX7_touch_8 : decode cX7_touch 8 = .ok (.iconst 1, 1) := by decide +kernel
theorem dX7_touch_9 : decode cX7_touch 9 = .ok (.iadd, 1) := by decide +kernel
theorem dX7_touch_10 : decode cX7_touch 10 = .ok (.iaload, 1) := by decide +kernel
theorem dX7_touch_11 : decode cX7_touch 11 = .ok (.iconst 1, 1) := by decide +kernel
theorem dX7_touch_12 : decode cX7_touch 12 = .ok (.if_icmp .ne 7, 3) := by decide +kernel
theorem dX7_touch_15 : decode cX7_touch 15 = .ok (.iconst 0, 1) := by decide +kernel
theorem dX7_touch_16 : decode cX7_touch 16 = .ok (.goto 4, 3) := by decide +kernel
theorem dX7_touch_19 : decode cX7_touch 19 = .ok (.iconst 1, 1) := by decide +kernel
theorem dX7_touch_20 : decode cX7_touch 20 = .ok (.istore_n 3, 1) := by decide +kernel
theorem dX7_touch_21 : decode cX7_touch 21 = .ok (.aload_n 0, 1) := by decide +kernel
theorem dX7_touch_22 : decode cX7_touch 22 = .ok (.getfield 7, 3) := by decide +kernel
theorem dX7_touch_25 : decode cX7_touch 25 = .ok (.sipush 663, 3) := by decide +kernel
theorem dX7_touch_28 : decode cX7_touch 28 = .ok (.iconst 2, 1) := by decide +kernel
theorem dX7_touch_29 : decode cX7_touch 29 = .ok (.iload_n 1, 1) := by decide +kernel
theorem dX7_touch_30 : decode cX7_touch 30 = .ok (.imul, 1) := by decide +kernel
theorem dX7_touch_31 : decode cX7_touch 31 = .ok (.iadd, 1) := by decide +kernel
theorem dX7_touch_32 : decode cX7_touch 32 = .ok (.iload_n 3, 1) := by decide +kernel
theorem dX7_touch_33 : decode cX7_touch 33 = .ok (.iadd, 1) := by decide +kernel
theorem dX7_touch_34 : decode cX7_touch 34 = .ok (.iconst 1, 1) := by decide +kernel
theorem dX7_touch_35 : decode cX7_touch 35 = .ok (.iastore, 1) := by decide +kernel
theorem dX7_touch_36 : decode cX7_touch 36 = .ok (.return_, 1) := by decide +kernel
theorem dX7_giveName_0 : decode cX7_giveName 0 = .ok (.aload_n 0, 1) := by decide +kernel
theorem dX7_giveName_1 : decode cX7_giveName 1 = .ok (.getfield 7, 3) := by decide +kernel
theorem dX7_giveName_4 : decode cX7_giveName 4 = .ok (.iload_n 1, 1) := by decide +kernel
theorem dX7_giveName_5 : decode cX7_giveName 5 = .ok (.invokestatic 64, 3) := by decide +kernel
theorem dX7_giveName_8 : decode cX7_giveName 8 = .ok (.iconst 2, 1) := by decide +kernel
theorem dX7_giveName_9 : decode cX7_giveName 9 = .ok (.iadd, 1) := by decide +kernel
theorem dX7_giveName_10 : decode cX7_giveName 10 = .ok (.iload_n 2, 1) := by decide +kernel
theorem dX7_giveName_11 : decode cX7_giveName 11 = .ok (.iastore, 1) := by decide +kernel
theorem dX7_giveName_12 : decode cX7_giveName 12 = .ok (.aload_n 0, 1) := by decide +kernel
theorem dX7_giveName_13 : decode cX7_giveName 13 = .ok (.getfield 7, 3) := by decide +kernel
theorem dX7_giveName_16 : decode cX7_giveName 16 = .ok (.sipush 563, 3) := by decide +kernel
theorem dX7_giveName_19 : decode cX7_giveName 19 = .ok (.iload_n 2, 1) := by decide +kernel
theorem dX7_giveName_20 : decode cX7_giveName 20 = .ok (.iadd, 1) := by decide +kernel
theorem dX7_giveName_21 : decode cX7_giveName 21 = .ok (.iload_n 1, 1) := by decide +kernel
theorem dX7_giveName_22 : decode cX7_giveName 22 = .ok (.iconst 1, 1) := by decide +kernel
theorem dX7_giveName_23 : decode cX7_giveName 23 = .ok (.iadd, 1) := by decide +kernel
theorem dX7_giveName_24 : decode cX7_giveName 24 = .ok (.iastore, 1) := by decide +kernel
theorem dX7_giveName_25 : decode cX7_giveName 25 = .ok (.return_, 1) := by decide +kernel
theorem dX7_addFile_0 : decode cX7_addFile 0 = .ok (.aload_n 0, 1) := by decide +kernel
theorem dX7_addFile_1 : decode cX7_addFile 1 = .ok (.iload_n 1, 1) := by decide +kernel
theorem dX7_addFile_2 : decode cX7_addFile 2 = .ok (.invokevirtual 57, 3) := by decide +kernel
theorem dX7_addFile_5 : decode cX7_addFile 5 = .ok (.ifCond .ne 5, 3) := by decide +kernel
theorem dX7_addFile_8 : decode cX7_addFile 8 = .ok (.iconst (-1), 1) := by decide +kernel
theorem dX7_addFile_9 : decode cX7_addFile 9 = .ok (.ireturn, 1) := by decide +kernel
theorem dX7_addFile_10 : decode cX7_addFile 10 = .ok (.iload_n 3, 1) := by decide +kernel
theorem dX7_addFile_11 : decode cX7_addFile 11 = .ok (.iconst 0, 1) := by decide +kernel
theorem dX7_addFile_12 : decode cX7_addFile 12 = .ok (.bipush 99, 2) := by decide +kernel
theorem dX7_addFile_14 : decode cX7_addFile 14 = .ok (.invokestatic 41, 3) := by decide +kernel
theorem dX7_addFile_17 : decode cX7_addFile 17 = .ok (.ifCond .ne 6, 3) := by decide +kernel
theorem dX7_addFile_20 : decode cX7_addFile 20 = .ok (.bipush (-3), 2) := by decide +kernel
theorem dX7_addFile_22 : decode cX7_addFile 22 = .ok (.ireturn, 1) := by decide +kernel
theorem dX7_addFile_23 : decode cX7_addFile 23 = .ok (.aload_n 0, 1) := by decide +kernel
theorem dX7_addFile_24 : decode cX7_addFile 24 = .ok (.iload_n 3, 1) := by decide +kernel
theorem dX7_addFile_25 : decode cX7_addFile 25 = .ok (.invokevirtual 70, 3) := by decide +kernel
theorem dX7_addFile_28 : decode cX7_addFile 28 = .ok (.ifCond .eq 6, 3) := by decide +kernel
theorem dX7_addFile_31 : decode cX7_addFile 31 = .ok (.bipush (-9), 2) := by decide +kernel
theorem dX7_addFile_33 : decode cX7_addFile 33 = .ok (.ireturn, 1) := by decide +kernel
theorem dX7_addFile_34 : decode cX7_addFile 34 = .ok (.aload_n 0, 1) := by decide +kernel
theorem dX7_addFile_35 : decode cX7_addFile 35 = .ok (.getfield 7, 3) := by decide +kernel
theorem dX7_addFile_38 : decode cX7_addFile 38 = .ok (.iconst 2, 1) := by decide +kernel
theorem dX7_addFile_39 : decode cX7_addFile 39 = .ok (.iaload, 1) := by decide +kernel
theorem dX7_addFile_40 : decode cX7_addFile 40 = .ok (.bipush 40, 2) := by decide +kernel
theorem dX7_addFile_42 : decode cX7_addFile 42 = .ok (.if_icmp .ne 6, 3) := by decide +kernel
theorem dX7_addFile_45 : decode cX7_addFile 45 = .ok (.bipush (-8), 2) := by decide +kernel
theorem dX7_addFile_47 : decode cX7_addFile 47 = .ok (.ireturn, 1) := by decide +kernel
theorem dX7_addFile_48 : decode cX7_addFile 48 = .ok (.aload_n 0, 1) := by decide +kernel
theorem dX7_addFile_49 : decode cX7_addFile 49 = .ok (.getfield 7, 3) := by decide +kernel
theorem dX7_addFile_52 : decode cX7_addFile 52 = .ok (.iconst 2, 1) := by decide +kernel
theorem dX7_addFile_53 : decode cX7_addFile 53 = .ok (.iaload, 1) := by decide +kernel
theorem dX7_addFile_54 : decode cX7_addFile 54 = .ok (.istore 4, 2) := by decide +kernel
theorem dX7_addFile_56 : decode cX7_addFile 56 = .ok (.aload_n 0, 1) := by decide +kernel
theorem dX7_addFile_57 : decode cX7_addFile 57 = .ok (.getfield 7, 3) := by decide +kernel
theorem dX7_addFile_60 : decode cX7_addFile 60 = .ok (.iconst 2, 1) := by decide +kernel
theorem dX7_addFile_61 : decode cX7_addFile 61 = .ok (.dup2, 1) := by decide +kernel
theorem dX7_addFile_62 : decode cX7_addFile 62 = .ok (.iaload, 1) := by decide +kernel
theorem dX7_addFile_63 : decode cX7_addFile 63 = .ok (.iconst 1, 1) := by decide +kernel
theorem dX7_addFile_64 : decode cX7_addFile 64 = .ok (.iadd, 1) := by decide +kernel
theorem dX7_addFile_65 : decode cX7_addFile 65 = .ok (.iastore, 1) := by decide +kernel
theorem dX7_addFile_66 : decode cX7_addFile 66 = .ok (.aload_n 0, 1) := by decide +kernel
theorem dX7_addFile_67 : decode cX7_addFile 67 = .ok (.getfield 7, 3) := by decide +kernel
theorem dX7_addFile_70 : decode cX7_addFile 70 = .ok (.iload 4, 2) := by decide +kernel
theorem dX7_addFile_72 : decode cX7_addFile 72 = .ok (.invokestatic 64, 3) := by decide +kernel
theorem dX7_addFile_75 : decode cX7_addFile 75 = .ok (.iload_n 1, 1) := by decide +kernel
theorem dX7_addFile_76 : decode cX7_addFile 76 = .ok (.iastore, 1) := by decide +kernel
theorem dX7_addFile_77 : decode cX7_addFile 77 = .ok (.aload_n 0, 1) := by decide +kernel
theorem dX7_addFile_78 : decode cX7_addFile 78 = .ok (.getfield 7, 3) := by decide +kernel
theorem dX7_addFile_81 : decode cX7_addFile 81 = .ok (.iload 4, 2) := by decide +kernel
theorem dX7_addFile_83 : decode cX7_addFile 83 = .ok (.invokestatic 64, 3) := by decide +kernel
theorem dX7_addFile_86 : decode cX7_addFile 86 = .ok (.iconst 1, 1) := by decide +kernel
theorem dX7_addFile_87 : decode cX7_addFile 87 = .ok (.iadd, 1) := by decide +kernel
theorem dX7_addFile_88 : decode cX7_addFile 88 = .ok (.iload_n 2, 1) := by decide +kernel
theorem dX7_addFile_89 : decode cX7_addFile 89 = .ok (.ifCond .eq 7, 3) := by decide +kernel
theorem dX7_addFile_92 : decode cX7_addFile 92 = .ok (.iconst 1, 1) := by decide +kernel
theorem dX7_addFile_93 : decode cX7_addFile 93 = .ok (.goto 4, 3) := by decide +kernel
theorem dX7_addFile_96 : decode cX7_addFile 96 = .ok (.iconst 0, 1) := by decide +kernel
theorem dX7_addFile_97 : decode cX7_addFile 97 = .ok (.iastore, 1) := by decide +kernel
theorem dX7_addFile_98 : decode cX7_addFile 98 = .ok (.aload_n 0, 1) := by decide +kernel
theorem dX7_addFile_99 : decode cX7_addFile 99 = .ok (.iload 4, 2) := by decide +kernel
theorem dX7_addFile_101 : decode cX7_addFile 101 = .ok (.iload_n 3, 1) := by decide +kernel
theorem dX7_addFile_102 : decode cX7_addFile 102 = .ok (.invokevirtual 73, 3) := by decide +kernel
theorem dX7_addFile_105 : decode cX7_addFile 105 = .ok (.aload_n 0, 1) := by decide +kernel
theorem dX7_addFile_106 : decode cX7_addFile 106 = .ok (.iload_n 1, 1) := by decide +kernel
theorem dX7_addFile_107 : decode cX7_addFile 107 = .ok (.iload 4, 2) := by decide +kernel
theorem dX7_addFile_109 : decode cX7_addFile 109 = .ok (.invokevirtual 77, 3) := by decide +kernel
theorem dX7_addFile_112 : decode cX7_addFile 112 = .ok (.iload 4, 2) := by decide +kernel
theorem dX7_addFile_114 : decode cX7_addFile 114 = .ok (.ireturn, 1) := by decide +kernel
theorem dX7_edit_0 : decode cX7_edit 0 = .ok (.aload_n 0, 1) := by decide +kernel
theorem dX7_edit_1 : decode cX7_edit 1 = .ok (.iload_n 1, 1) := by decide +kernel
theorem dX7_edit_2 : decode cX7_edit 2 = .ok (.invokevirtual 67, 3) := by decide +kernel
theorem dX7_edit_5 : decode cX7_edit 5 = .ok (.ifCond .ne 6, 3) := by decide +kernel
theorem dX7_edit_8 : decode cX7_edit 8 = .ok (.bipush (-2), 2) := by decide +kernel
theorem dX7_edit_10 : decode cX7_edit 10 = .ok (.ireturn, 1) := by decide +kernel
theorem dX7_edit_11 : decode cX7_edit 11 = .ok (.aload_n 0, 1) := by decide +kernel
theorem dX7_edit_12 : decode cX7_edit 12 = .ok (.aload_n 0, 1) := by decide +kernel
theorem dX7_edit_13 : decode cX7_edit 13 = .ok (.getfield 7, 3) := by decide +kernel
theorem dX7_edit_16 : decode cX7_edit 16 = .ok (.iload_n 1, 1) := by decide +kernel
theorem dX7_edit_17 : decode cX7_edit 17 = .ok (.invokestatic 64, 3) := by decide +kernel
theorem dX7_edit_20 : decode cX7_edit 20 = .ok (.iaload, 1) := by decide +kernel
theorem dX7_edit_21 : decode cX7_edit 21 = .ok (.iload_n 1, 1) := by decide +kernel
theorem dX7_edit_22 : decode cX7_edit 22 = .ok (.invokevirtual 77, 3) := by decide +kernel
theorem dX7_edit_25 : decode cX7_edit 25 = .ok (.aload_n 0, 1) := by decide +kernel
theorem dX7_edit_26 : decode cX7_edit 26 = .ok (.getfield 7, 3) := by decide +kernel
theorem dX7_edit_29 : decode cX7_edit 29 = .ok (.iload_n 1, 1) := by decide +kernel
theorem dX7_edit_30 : decode cX7_edit 30 = .ok (.invokestatic 64, 3) := by decide +kernel
theorem dX7_edit_33 : decode cX7_edit 33 = .ok (.iaload, 1) := by decide +kernel
theorem dX7_edit_34 : decode cX7_edit 34 = .ok (.ireturn, 1) := by decide +kernel
theorem dX7_rename_0 : decode cX7_rename 0 = .ok (.aload_n 0, 1) := by decide +kernel
theorem dX7_rename_1 : decode cX7_rename 1 = .ok (.iload_n 1, 1) := by decide +kernel
theorem dX7_rename_2 : decode cX7_rename 2 = .ok (.invokevirtual 67, 3) := by decide +kernel
theorem dX7_rename_5 : decode cX7_rename 5 = .ok (.ifCond .ne 6, 3) := by decide +kernel
theorem dX7_rename_8 : decode cX7_rename 8 = .ok (.bipush (-2), 2) := by decide +kernel
theorem dX7_rename_10 : decode cX7_rename 10 = .ok (.ireturn, 1) := by decide +kernel
theorem dX7_rename_11 : decode cX7_rename 11 = .ok (.iload_n 2, 1) := by decide +kernel
theorem dX7_rename_12 : decode cX7_rename 12 = .ok (.iconst 0, 1) := by decide +kernel
theorem dX7_rename_13 : decode cX7_rename 13 = .ok (.bipush 99, 2) := by decide +kernel
theorem dX7_rename_15 : decode cX7_rename 15 = .ok (.invokestatic 41, 3) := by decide +kernel
theorem dX7_rename_18 : decode cX7_rename 18 = .ok (.ifCond .ne 6, 3) := by decide +kernel
theorem dX7_rename_21 : decode cX7_rename 21 = .ok (.bipush (-3), 2) := by decide +kernel
theorem dX7_rename_23 : decode cX7_rename 23 = .ok (.ireturn, 1) := by decide +kernel
theorem dX7_rename_24 : decode cX7_rename 24 = .ok (.aload_n 0, 1) := by decide +kernel
theorem dX7_rename_25 : decode cX7_rename 25 = .ok (.iload_n 2, 1) := by decide +kernel
theorem dX7_rename_26 : decode cX7_rename 26 = .ok (.invokevirtual 70, 3) := by decide +kernel
theorem dX7_rename_29 : decode cX7_rename 29 = .ok (.ifCond .eq 6, 3) := by decide +kernel
theorem dX7_rename_32 : decode cX7_rename 32 = .ok (.bipush (-9), 2) := by decide +kernel
theorem dX7_rename_34 : decode cX7_rename 34 = .ok (.ireturn, 1) := by decide +kernel
theorem dX7_rename_35 : decode cX7_rename 35 = .ok (.aload_n 0, 1) := by decide +kernel
theorem dX7_rename_36 : decode cX7_rename 36 = .ok (.getfield 7, 3) := by decide +kernel
theorem dX7_rename_39 : decode cX7_rename 39 = .ok (.iload_n 1, 1) := by decide +kernel
theorem dX7_rename_40 : decode cX7_rename 40 = .ok (.invokestatic 64, 3) := by decide +kernel
theorem dX7_rename_43 : decode cX7_rename 43 = .ok (.iconst 2, 1) := by decide +kernel
theorem dX7_rename_44 : decode cX7_rename 44 = .ok (.iadd, 1) := by decide +kernel
theorem dX7_rename_45 : decode cX7_rename 45 = .ok (.iaload, 1) := by decide +kernel
theorem dX7_rename_46 : decode cX7_rename 46 = .ok (.istore_n 3, 1) := by decide +kernel
theorem dX7_rename_47 : decode cX7_rename 47 = .ok (.aload_n 0, 1) := by decide +kernel
theorem dX7_rename_48 : decode cX7_rename 48 = .ok (.iload_n 1, 1) := by decide +kernel
theorem dX7_rename_49 : decode cX7_rename 49 = .ok (.iload_n 2, 1) := by decide +kernel
theorem dX7_rename_50 : decode cX7_rename 50 = .ok (.invokevirtual 73, 3) := by decide +kernel
theorem dX7_rename_53 : decode cX7_rename 53 = .ok (.aload_n 0, 1) := by decide +kernel
theorem dX7_rename_54 : decode cX7_rename 54 = .ok (.getfield 7, 3) := by decide +kernel
theorem dX7_rename_57 : decode cX7_rename 57 = .ok (.iload_n 1, 1) := by decide +kernel
theorem dX7_rename_58 : decode cX7_rename 58 = .ok (.invokestatic 64, 3) := by decide +kernel
theorem dX7_rename_61 : decode cX7_rename 61 = .ok (.iconst 1, 1) := by decide +kernel
theorem dX7_rename_62 : decode cX7_rename 62 = .ok (.iadd, 1) := by decide +kernel
theorem dX7_rename_63 : decode cX7_rename 63 = .ok (.iaload, 1) := by decide +kernel
theorem dX7_rename_64 : decode cX7_rename 64 = .ok (.iconst 1, 1) := by decide +kernel
theorem dX7_rename_65 : decode cX7_rename 65 = .ok (.if_icmp .ne 17, 3) := by decide +kernel
theorem dX7_rename_68 : decode cX7_rename 68 = .ok (.aload_n 0, 1) := by decide +kernel
theorem dX7_rename_69 : decode cX7_rename 69 = .ok (.aload_n 0, 1) := by decide +kernel
theorem dX7_rename_70 : decode cX7_rename 70 = .ok (.getfield 7, 3) := by decide +kernel
theorem dX7_rename_73 : decode cX7_rename 73 = .ok (.iload_n 1, 1) := by decide +kernel
theorem dX7_rename_74 : decode cX7_rename 74 = .ok (.invokestatic 64, 3) := by decide +kernel
theorem dX7_rename_77 : decode cX7_rename 77 = .ok (.iaload, 1) := by decide +kernel
theorem dX7_rename_78 : decode cX7_rename 78 = .ok (.iload_n 1, 1) := by decide +kernel
theorem dX7_rename_79 : decode cX7_rename 79 = .ok (.invokevirtual 77, 3) := by decide +kernel
theorem dX7_rename_82 : decode cX7_rename 82 = .ok (.iload_n 3, 1) := by decide +kernel
theorem dX7_rename_83 : decode cX7_rename 83 = .ok (.ireturn, 1) := by decide +kernel
theorem dX7_move_0 : decode cX7_move 0 = .ok (.aload_n 0, 1) := by decide +kernel
theorem dX7_move_1 : decode cX7_move 1 = .ok (.iload_n 1, 1) := by decide +kernel
theorem dX7_move_2 : decode cX7_move 2 = .ok (.invokevirtual 67, 3) := by decide +kernel
theorem dX7_move_5 : decode cX7_move 5 = .ok (.ifCond .ne 6, 3) := by decide +kernel
theorem dX7_move_8 : decode cX7_move 8 = .ok (.bipush (-2), 2) := by decide +kernel
theorem dX7_move_10 : decode cX7_move 10 = .ok (.ireturn, 1) := by decide +kernel
theorem dX7_move_11 : decode cX7_move 11 = .ok (.aload_n 0, 1) := by decide +kernel
theorem dX7_move_12 : decode cX7_move 12 = .ok (.iload_n 2, 1) := by decide +kernel
theorem dX7_move_13 : decode cX7_move 13 = .ok (.invokevirtual 57, 3) := by decide +kernel
theorem dX7_move_16 : decode cX7_move 16 = .ok (.ifCond .ne 5, 3) := by decide +kernel
theorem dX7_move_19 : decode cX7_move 19 = .ok (.iconst (-1), 1) := by decide +kernel
theorem dX7_move_20 : decode cX7_move 20 = .ok (.ireturn, 1) := by decide +kernel
theorem dX7_move_21 : decode cX7_move 21 = .ok (.aload_n 0, 1) := by decide +kernel
theorem dX7_move_22 : decode cX7_move 22 = .ok (.getfield 7, 3) := by decide +kernel
theorem dX7_move_25 : decode cX7_move 25 = .ok (.iload_n 1, 1) := by decide +kernel
theorem dX7_move_26 : decode cX7_move 26 = .ok (.invokestatic 64, 3) := by decide +kernel
theorem dX7_move_29 : decode cX7_move 29 = .ok (.iaload, 1) := by decide +kernel
theorem dX7_move_30 : decode cX7_move 30 = .ok (.istore_n 3, 1) := by decide +kernel
theorem dX7_move_31 : decode cX7_move 31 = .ok (.iload_n 3, 1) := by decide +kernel
theorem dX7_move_32 : decode cX7_move 32 = .ok (.iload_n 2, 1) := by decide +kernel
theorem dX7_move_33 : decode cX7_move 33 = .ok (.if_icmp .ne 6, 3) := by decide +kernel
theorem dX7_move_36 : decode cX7_move 36 = .ok (.bipush (-4), 2) := by decide +kernel
theorem dX7_move_38 : decode cX7_move 38 = .ok (.ireturn, 1) := by decide +kernel
theorem dX7_move_39 : decode cX7_move 39 = .ok (.aload_n 0, 1) := by decide +kernel
theorem dX7_move_40 : decode cX7_move 40 = .ok (.iload_n 3, 1) := by decide +kernel
theorem dX7_move_41 : decode cX7_move 41 = .ok (.iload_n 1, 1) := by decide +kernel
theorem dX7_move_42 : decode cX7_move 42 = .ok (.invokevirtual 77, 3) := by decide +kernel
theorem dX7_move_45 : decode cX7_move 45 = .ok (.aload_n 0, 1) := by decide +kernel
theorem dX7_move_46 : decode cX7_move 46 = .ok (.iload_n 2, 1) := by decide +kernel
theorem dX7_move_47 : decode cX7_move 47 = .ok (.iload_n 1, 1) := by decide +kernel
theorem dX7_move_48 : decode cX7_move 48 = .ok (.invokevirtual 77, 3) := by decide +kernel
theorem dX7_move_51 : decode cX7_move 51 = .ok (.aload_n 0, 1) := by decide +kernel
theorem dX7_move_52 : decode cX7_move 52 = .ok (.getfield 7, 3) := by decide +kernel
theorem dX7_move_55 : decode cX7_move 55 = .ok (.iload_n 1, 1) := by decide +kernel
theorem dX7_move_56 : decode cX7_move 56 = .ok (.invokestatic 64, 3) := by decide +kernel
theorem dX7_move_59 : decode cX7_move 59 = .ok (.iload_n 2, 1) := by decide +kernel
theorem dX7_move_60 : decode cX7_move 60 = .ok (.iastore, 1) := by decide +kernel
theorem dX7_move_61 : decode cX7_move 61 = .ok (.iload_n 3, 1) := by decide +kernel
theorem dX7_move_62 : decode cX7_move 62 = .ok (.ireturn, 1) := by decide +kernel
theorem dX7_deleteFile_0 : decode cX7_deleteFile 0 = .ok (.aload_n 0, 1) := by decide +kernel
theorem dX7_deleteFile_1 : decode cX7_deleteFile 1 = .ok (.iload_n 1, 1) := by decide +kernel
theorem dX7_deleteFile_2 : decode cX7_deleteFile 2 = .ok (.invokevirtual 67, 3) := by decide +kernel
theorem dX7_deleteFile_5 : decode cX7_deleteFile 5 = .ok (.ifCond .ne 6, 3) := by decide +kernel
theorem dX7_deleteFile_8 : decode cX7_deleteFile 8 = .ok (.bipush (-2), 2) := by decide +kernel
theorem dX7_deleteFile_10 : decode cX7_deleteFile 10 = .ok (.ireturn, 1) := by decide +kernel
theorem dX7_deleteFile_11 : decode cX7_deleteFile 11 = .ok (.aload_n 0, 1) := by decide +kernel
theorem dX7_deleteFile_12 : decode cX7_deleteFile 12 = .ok (.aload_n 0, 1) := by decide +kernel
theorem dX7_deleteFile_13 : decode cX7_deleteFile 13 = .ok (.getfield 7, 3) := by decide +kernel
theorem dX7_deleteFile_16 : decode cX7_deleteFile 16 = .ok (.iload_n 1, 1) := by decide +kernel
theorem dX7_deleteFile_17 : decode cX7_deleteFile 17 = .ok (.invokestatic 64, 3) := by decide +kernel
theorem dX7_deleteFile_20 : decode cX7_deleteFile 20 = .ok (.iaload, 1) := by decide +kernel
theorem dX7_deleteFile_21 : decode cX7_deleteFile 21 = .ok (.iload_n 1, 1) := by decide +kernel
theorem dX7_deleteFile_22 : decode cX7_deleteFile 22 = .ok (.invokevirtual 77, 3) := by decide +kernel
theorem dX7_deleteFile_25 : decode cX7_deleteFile 25 = .ok (.aload_n 0, 1) := by decide +kernel
theorem dX7_deleteFile_26 : decode cX7_deleteFile 26 = .ok (.getfield 7, 3) := by decide +kernel
theorem dX7_deleteFile_29 : decode cX7_deleteFile 29 = .ok (.iload_n 1, 1) := by decide +kernel
theorem dX7_deleteFile_30 : decode cX7_deleteFile 30 = .ok (.invokestatic 64, 3) := by decide +kernel
theorem dX7_deleteFile_33 : decode cX7_deleteFile 33 = .ok (.iconst (-1), 1) := by decide +kernel
theorem dX7_deleteFile_34 : decode cX7_deleteFile 34 = .ok (.iastore, 1) := by decide +kernel
theorem dX7_deleteFile_35 : decode cX7_deleteFile 35 = .ok (.aload_n 0, 1) := by decide +kernel
theorem dX7_deleteFile_36 : decode cX7_deleteFile 36 = .ok (.getfield 7, 3) := by decide +kernel
theorem dX7_deleteFile_39 : decode cX7_deleteFile 39 = .ok (.iload_n 1, 1) := by decide +kernel
theorem dX7_deleteFile_40 : decode cX7_deleteFile 40 = .ok (.invokestatic 64, 3) := by decide +kernel
theorem dX7_deleteFile_43 : decode cX7_deleteFile 43 = .ok (.iconst 2, 1) := by decide +kernel
theorem dX7_deleteFile_44 : decode cX7_deleteFile 44 = .ok (.iadd, 1) := by decide +kernel
theorem dX7_deleteFile_45 : decode cX7_deleteFile 45 = .ok (.iaload, 1) := by decide +kernel
theorem dX7_deleteFile_46 : decode cX7_deleteFile 46 = .ok (.ireturn, 1) := by decide +kernel
theorem dX7_targetOf_0 : decode cX7_targetOf 0 = .ok (.aload_n 0, 1) := by decide +kernel
theorem dX7_targetOf_1 : decode cX7_targetOf 1 = .ok (.iload_n 1, 1) := by decide +kernel
theorem dX7_targetOf_2 : decode cX7_targetOf 2 = .ok (.invokevirtual 67, 3) := by decide +kernel
theorem dX7_targetOf_5 : decode cX7_targetOf 5 = .ok (.ifCond .eq 15, 3) := by decide +kernel
theorem dX7_targetOf_8 : decode cX7_targetOf 8 = .ok (.aload_n 0, 1) := by decide +kernel
theorem dX7_targetOf_9 : decode cX7_targetOf 9 = .ok (.getfield 7, 3) := by decide +kernel
theorem dX7_targetOf_12 : decode cX7_targetOf 12 = .ok (.iload_n 1, 1) := by decide +kernel
theorem dX7_targetOf_13 : decode cX7_targetOf 13 = .ok (.invokestatic 64, 3) := by decide +kernel
theorem dX7_targetOf_16 : decode cX7_targetOf 16 = .ok (.iaload, 1) := by decide +kernel
theorem dX7_targetOf_17 : decode cX7_targetOf 17 = .ok (.goto 5, 3) := by decide +kernel
theorem dX7_targetOf_20 : decode cX7_targetOf 20 = .ok (.bipush (-2), 2) := by decide +kernel
theorem dX7_targetOf_22 : decode cX7_targetOf 22 = .ok (.ireturn, 1) := by decide +kernel
theorem dX7_nameOf_0 : decode cX7_nameOf 0 = .ok (.aload_n 0, 1) := by decide +kernel
theorem dX7_nameOf_1 : decode cX7_nameOf 1 = .ok (.iload_n 1, 1) := by decide +kernel
theorem dX7_nameOf_2 : decode cX7_nameOf 2 = .ok (.invokevirtual 67, 3) := by decide +kernel
theorem dX7_nameOf_5 : decode cX7_nameOf 5 = .ok (.ifCond .eq 17, 3) := by decide +kernel
theorem dX7_nameOf_8 : decode cX7_nameOf 8 = .ok (.aload_n 0, 1) := by decide +kernel
theorem dX7_nameOf_9 : decode cX7_nameOf 9 = .ok (.getfield 7, 3) := by decide +kernel
theorem dX7_nameOf_12 : decode cX7_nameOf 12 = .ok (.iload_n 1, 1) := by decide +kernel
theorem dX7_nameOf_13 : decode cX7_nameOf 13 = .ok (.invokestatic 64, 3) := by decide +kernel
theorem dX7_nameOf_16 : decode cX7_nameOf 16 = .ok (.iconst 2, 1) := by decide +kernel
theorem dX7_nameOf_17 : decode cX7_nameOf 17 = .ok (.iadd, 1) := by decide +kernel
theorem dX7_nameOf_18 : decode cX7_nameOf 18 = .ok (.iaload, 1) := by decide +kernel
theorem dX7_nameOf_19 : decode cX7_nameOf 19 = .ok (.goto 5, 3) := by decide +kernel
theorem dX7_nameOf_22 : decode cX7_nameOf 22 = .ok (.bipush (-2), 2) := by decide +kernel
theorem dX7_nameOf_24 : decode cX7_nameOf 24 = .ok (.ireturn, 1) := by decide +kernel
theorem dX7_follow_0 : decode cX7_follow 0 = .ok (.iload_n 1, 1) := by decide +kernel
theorem dX7_follow_1 : decode cX7_follow 1 = .ok (.iconst 0, 1) := by decide +kernel
theorem dX7_follow_2 : decode cX7_follow 2 = .ok (.bipush 99, 2) := by decide +kernel
theorem dX7_follow_4 : decode cX7_follow 4 = .ok (.invokestatic 41, 3) := by decide +kernel
theorem dX7_follow_7 : decode cX7_follow 7 = .ok (.ifCond .ne 6, 3) := by decide +kernel
theorem dX7_follow_10 : decode cX7_follow 10 = .ok (.bipush (-3), 2) := by decide +kernel
theorem dX7_follow_12 : decode cX7_follow 12 = .ok (.ireturn, 1) := by decide +kernel
theorem dX7_follow_13 : decode cX7_follow 13 = .ok (.aload_n 0, 1) := by decide +kernel
theorem dX7_follow_14 : decode cX7_follow 14 = .ok (.getfield 7, 3) := by decide +kernel
theorem dX7_follow_17 : decode cX7_follow 17 = .ok (.sipush 563, 3) := by decide +kernel
theorem dX7_follow_20 : decode cX7_follow 20 = .ok (.iload_n 1, 1) := by decide +kernel
theorem dX7_follow_21 : decode cX7_follow 21 = .ok (.iadd, 1) := by decide +kernel
theorem dX7_follow_22 : decode cX7_follow 22 = .ok (.iaload, 1) := by decide +kernel
theorem dX7_follow_23 : decode cX7_follow 23 = .ok (.iconst 1, 1) := by decide +kernel
theorem dX7_follow_24 : decode cX7_follow 24 = .ok (.isub, 1) := by decide +kernel
theorem dX7_follow_25 : decode cX7_follow 25 = .ok (.istore_n 2, 1) := by decide +kernel
theorem dX7_follow_26 : decode cX7_follow 26 = .ok (.aload_n 0, 1) := by decide +kernel
theorem dX7_follow_27 : decode cX7_follow 27 = .ok (.iload_n 2, 1) := by decide +kernel
theorem dX7_follow_28 : decode cX7_follow 28 = .ok (.invokevirtual 67, 3) := by decide +kernel
theorem dX7_follow_31 : decode cX7_follow 31 = .ok (.ifCond .eq 7, 3) := by decide +kernel
theorem dX7_follow_34 : decode cX7_follow 34 = .ok (.iload_n 2, 1) := by decide +kernel
theorem dX7_follow_35 : decode cX7_follow 35 = .ok (.goto 5, 3) := by decide +kernel
theorem dX7_follow_38 : decode cX7_follow 38 = .ok (.bipush (-10), 2) := by decide +kernel
theorem dX7_follow_40 : decode cX7_follow 40 = .ok (.ireturn, 1) := by decide +kernel
theorem dX7_follows_0 : decode cX7_follows 0 = .ok (.iload_n 1, 1) := by decide +kernel
theorem dX7_follows_1 : decode cX7_follows 1 = .ok (.iconst 2, 1) := by decide +kernel
theorem dX7_follows_2 : decode cX7_follows 2 = .ok (.idiv, 1) := by decide +kernel
theorem dX7_follows_3 : decode cX7_follows 3 = .ok (.istore_n 3, 1) := by decide +kernel
theorem dX7_follows_4 : decode cX7_follows 4 = .ok (.iload_n 2, 1) := by decide +kernel
theorem dX7_follows_5 : decode cX7_follows 5 = .ok (.iconst 2, 1) := by decide +kernel
theorem dX7_follows_6 : decode cX7_follows 6 = .ok (.idiv, 1) := by decide +kernel
theorem dX7_follows_7 : decode cX7_follows 7 = .ok (.istore 4, 2) := by decide +kernel
theorem dX7_follows_9 : decode cX7_follows 9 = .ok (.iload_n 1, 1) := by decide +kernel
theorem dX7_follows_10 : decode cX7_follows 10 = .ok (.iconst 2, 1) := by decide +kernel
theorem dX7_follows_11 : decode cX7_follows 11 = .ok (.irem, 1) := by decide +kernel
theorem dX7_follows_12 : decode cX7_follows 12 = .ok (.ifCond .ne 7, 3) := by decide +kernel
theorem dX7_follows_15 : decode cX7_follows 15 = .ok (.iconst 1, 1) := by decide +kernel
theorem dX7_follows_16 : decode cX7_follows 16 = .ok (.goto 4, 3) := by decide +kernel
theorem dX7_follows_19 : decode cX7_follows 19 = .ok (.iconst 0, 1) := by decide +kernel
theorem dX7_follows_20 : decode cX7_follows 20 = .ok (.istore 5, 2) := by decide +kernel
theorem dX7_follows_22 : decode cX7_follows 22 = .ok (.iload_n 2, 1) := by decide +kernel
theorem dX7_follows_23 : decode cX7_follows 23 = .ok (.iconst 2, 1) := by decide +kernel
theorem dX7_follows_24 : decode cX7_follows 24 = .ok (.irem, 1) := by decide +kernel
theorem dX7_follows_25 : decode cX7_follows 25 = .ok (.ifCond .ne 7, 3) := by decide +kernel
theorem dX7_follows_28 : decode cX7_follows 28 = .ok (.iconst 1, 1) := by decide +kernel
theorem dX7_follows_29 : decode cX7_follows 29 = .ok (.goto 4, 3) := by decide +kernel
theorem dX7_follows_32 : decode cX7_follows 32 = .ok (.iconst 0, 1) := by decide +kernel
theorem dX7_follows_33 : decode cX7_follows 33 = .ok (.istore 6, 2) := by decide +kernel
theorem dX7_follows_35 : decode cX7_follows 35 = .ok (.iload_n 3, 1) := by decide +kernel
theorem dX7_follows_36 : decode cX7_follows 36 = .ok (.iload 4, 2) := by decide +kernel
theorem dX7_follows_38 : decode cX7_follows 38 = .ok (.if_icmp .ne 19, 3) := by decide +kernel
theorem dX7_follows_41 : decode cX7_follows 41 = .ok (.iload 5, 2) := by decide +kernel
theorem dX7_follows_43 : decode cX7_follows 43 = .ok (.ifCond .eq 12, 3) := by decide +kernel
theorem dX7_follows_46 : decode cX7_follows 46 = .ok (.iload 6, 2) := by decide +kernel
theorem dX7_follows_48 : decode cX7_follows 48 = .ok (.ifCond .ne 7, 3) := by decide +kernel
theorem dX7_follows_51 : decode cX7_follows 51 = .ok (.iconst 1, 1) := by decide +kernel
theorem dX7_follows_52 : decode cX7_follows 52 = .ok (.goto 4, 3) := by decide +kernel
theorem dX7_follows_55 : decode cX7_follows 55 = .ok (.iconst 0, 1) := by decide +kernel
theorem dX7_follows_56 : decode cX7_follows 56 = .ok (.ireturn, 1) := by decide +kernel
theorem dX7_follows_57 : decode cX7_follows 57 = .ok (.aload_n 0, 1) := by decide +kernel
theorem dX7_follows_58 : decode cX7_follows 58 = .ok (.iload 4, 2) := by decide +kernel
theorem dX7_follows_60 : decode cX7_follows 60 = .ok (.iload_n 3, 1) := by decide +kernel
theorem dX7_follows_61 : decode cX7_follows 61 = .ok (.invokevirtual 53, 3) := by decide +kernel
theorem dX7_follows_64 : decode cX7_follows 64 = .ok (.istore 7, 2) := by decide +kernel
theorem dX7_follows_66 : decode cX7_follows 66 = .ok (.iload 5, 2) := by decide +kernel
theorem dX7_follows_68 : decode cX7_follows 68 = .ok (.ifCond .eq 24, 3) := by decide +kernel
theorem dX7_follows_71 : decode cX7_follows 71 = .ok (.iload 7, 2) := by decide +kernel
theorem dX7_follows_73 : decode cX7_follows 73 = .ok (.iload 6, 2) := by decide +kernel
theorem dX7_follows_75 : decode cX7_follows 75 = .ok (.ifCond .eq 7, 3) := by decide +kernel
theorem dX7_follows_78 : decode cX7_follows 78 = .ok (.iconst 0, 1) := by decide +kernel
theorem dX7_follows_79 : decode cX7_follows 79 = .ok (.goto 4, 3) := by decide +kernel
theorem dX7_follows_82 : decode cX7_follows 82 = .ok (.iconst 1, 1) := by decide +kernel
theorem dX7_follows_83 : decode cX7_follows 83 = .ok (.if_icmp .ne 7, 3) := by decide +kernel
theorem dX7_follows_86 : decode cX7_follows 86 = .ok (.iconst 1, 1) := by decide +kernel
theorem dX7_follows_87 : decode cX7_follows 87 = .ok (.goto 4, 3) := by decide +kernel
theorem dX7_follows_90 : decode cX7_follows 90 = .ok (.iconst 0, 1) := by decide +kernel
theorem dX7_follows_91 : decode cX7_follows 91 = .ok (.ireturn, 1) := by decide +kernel
theorem dX7_follows_92 : decode cX7_follows 92 = .ok (.iload 6, 2) := by decide +kernel
theorem dX7_follows_94 : decode cX7_follows 94 = .ok (.ifCond .eq 13, 3) := by decide +kernel
theorem dX7_follows_97 : decode cX7_follows 97 = .ok (.iload 7, 2) := by decide +kernel
theorem dX7_follows_99 : decode cX7_follows 99 = .ok (.iconst 2, 1) := by decide +kernel
theorem dX7_follows_100 : decode cX7_follows 100 = .ok (.if_icmp .ne 7, 3) := by decide +kernel
theorem dX7_follows_103 : decode cX7_follows 103 = .ok (.iconst 1, 1) := by decide +kernel
theorem dX7_follows_104 : decode cX7_follows 104 = .ok (.goto 4, 3) := by decide +kernel
theorem dX7_follows_107 : decode cX7_follows 107 = .ok (.iconst 0, 1) := by decide +kernel
theorem dX7_follows_108 : decode cX7_follows 108 = .ok (.ireturn, 1) := by decide +kernel
theorem dX7_spread_0 : decode cX7_spread 0 = .ok (.iconst 1, 1) := by decide +kernel
theorem dX7_spread_1 : decode cX7_spread 1 = .ok (.istore_n 1, 1) := by decide +kernel
theorem dX7_spread_2 : decode cX7_spread 2 = .ok (.iload_n 1, 1) := by decide +kernel
theorem dX7_spread_3 : decode cX7_spread 3 = .ok (.ifCond .eq 84, 3) := by decide +kernel
theorem dX7_spread_6 : decode cX7_spread 6 = .ok (.iconst 0, 1) := by decide +kernel
theorem dX7_spread_7 : decode cX7_spread 7 = .ok (.istore_n 1, 1) := by decide +kernel
theorem dX7_spread_8 : decode cX7_spread 8 = .ok (.iconst 0, 1) := by decide +kernel
theorem dX7_spread_9 : decode cX7_spread 9 = .ok (.istore_n 2, 1) := by decide +kernel
theorem dX7_spread_10 : decode cX7_spread 10 = .ok (.iload_n 2, 1) := by decide +kernel
theorem dX7_spread_11 : decode cX7_spread 11 = .ok (.iconst 2, 1) := by decide +kernel
theorem dX7_spread_12 : decode cX7_spread 12 = .ok (.aload_n 0, 1) := by decide +kernel
theorem dX7_spread_13 : decode cX7_spread 13 = .ok (.getfield 7, 3) := by decide +kernel
theorem dX7_spread_16 : decode cX7_spread 16 = .ok (.iconst 0, 1) := by decide +kernel
theorem dX7_spread_17 : decode cX7_spread 17 = .ok (.iaload, 1) := by decide +kernel
theorem dX7_spread_18 : decode cX7_spread 18 = .ok (.imul, 1) := by decide +kernel
theorem dX7_spread_19 : decode cX7_spread 19 = .ok (.if_icmp .ge 65, 3) := by decide +kernel
theorem dX7_spread_22 : decode cX7_spread 22 = .ok (.iconst 0, 1) := by decide +kernel
theorem dX7_spread_23 : decode cX7_spread 23 = .ok (.istore_n 3, 1) := by decide +kernel
theorem dX7_spread_24 : decode cX7_spread 24 = .ok (.iload_n 3, 1) := by decide +kernel
theorem dX7_spread_25 : decode cX7_spread 25 = .ok (.iconst 2, 1) := by decide +kernel
theorem dX7_spread_26 : decode cX7_spread 26 = .ok (.aload_n 0, 1) := by decide +kernel
theorem dX7_spread_27 : decode cX7_spread 27 = .ok (.getfield 7, 3) := by decide +kernel
theorem dX7_spread_30 : decode cX7_spread 30 = .ok (.iconst 0, 1) := by decide +kernel
theorem dX7_spread_31 : decode cX7_spread 31 = .ok (.iaload, 1) := by decide +kernel
theorem dX7_spread_32 : decode cX7_spread 32 = .ok (.imul, 1) := by decide +kernel
theorem dX7_spread_33 : decode cX7_spread 33 = .ok (.if_icmp .ge 45, 3) := by decide +kernel
theorem dX7_spread_36 : decode cX7_spread 36 = .ok (.aload_n 0, 1) := by decide +kernel
theorem dX7_spread_37 : decode cX7_spread 37 = .ok (.getfield 20, 3) := by decide +kernel
theorem dX7_spread_40 : decode cX7_spread 40 = .ok (.iload_n 2, 1) := by decide +kernel
theorem dX7_spread_41 : decode cX7_spread 41 = .ok (.baload, 1) := by decide +kernel
theorem dX7_spread_42 : decode cX7_spread 42 = .ok (.ifCond .eq 30, 3) := by decide +kernel
theorem dX7_spread_45 : decode cX7_spread 45 = .ok (.aload_n 0, 1) := by decide +kernel
theorem dX7_spread_46 : decode cX7_spread 46 = .ok (.getfield 20, 3) := by decide +kernel
theorem dX7_spread_49 : decode cX7_spread 49 = .ok (.iload_n 3, 1) := by decide +kernel
theorem dX7_spread_50 : decode cX7_spread 50 = .ok (.baload, 1) := by decide +kernel
theorem dX7_spread_51 : decode cX7_spread 51 = .ok (.ifCond .ne 21, 3) := by decide +kernel
theorem dX7_spread_54 : decode cX7_spread 54 = .ok (.aload_n 0, 1) := by decide +kernel
theorem dX7_spread_55 : decode cX7_spread 55 = .ok (.iload_n 2, 1) := by decide +kernel
theorem dX7_spread_56 : decode cX7_spread 56 = .ok (.iload_n 3, 1) := by decide +kernel
theorem dX7_spread_57 : decode cX7_spread 57 = .ok (.invokevirtual 80, 3) := by decide +kernel
theorem dX7_spread_60 : decode cX7_spread 60 = .ok (.ifCond .eq 12, 3) := by decide +kernel
theorem dX7_spread_63 : decode cX7_spread 63 = .ok (.aload_n 0, 1) := by decide +kernel
theorem dX7_spread_64 : decode cX7_spread 64 = .ok (.getfield 20, 3) := by decide +kernel
theorem dX7_spread_67 : decode cX7_spread 67 = .ok (.iload_n 3, 1) := by decide +kernel
theorem dX7_spread_68 : decode cX7_spread 68 = .ok (.iconst 1, 1) := by decide +kernel
theorem dX7_spread_69 : decode cX7_spread 69 = .ok (.bastore, 1) := by decide +kernel
theorem dX7_spread_70 : decode cX7_spread 70 = .ok (.iconst 1, 1) := by decide +kernel
theorem dX7_spread_71 : decode cX7_spread 71 = .ok (.istore_n 1, 1) := by decide +kernel
theorem dX7_spread_72 : decode cX7_spread 72 = .ok (.iinc 3 1, 3) := by decide +kernel
theorem dX7_spread_75 : decode cX7_spread 75 = .ok (.goto (-51), 3) := by decide +kernel
theorem dX7_spread_78 : decode cX7_spread 78 = .ok (.iinc 2 1, 3) := by decide +kernel
theorem dX7_spread_81 : decode cX7_spread 81 = .ok (.goto (-71), 3) := by decide +kernel
theorem dX7_spread_84 : decode cX7_spread 84 = .ok (.goto (-82), 3) := by decide +kernel
theorem dX7_spread_87 : decode cX7_spread 87 = .ok (.return_, 1) := by decide +kernel
theorem dX7_layChanged_0 : decode cX7_layChanged 0 = .ok (.iconst 0, 1) := by decide +kernel
theorem dX7_layChanged_1 : decode cX7_layChanged 1 = .ok (.istore_n 1, 1) := by decide +kernel
theorem dX7_layChanged_2 : decode cX7_layChanged 2 = .ok (.iload_n 1, 1) := by decide +kernel
theorem dX7_layChanged_3 : decode cX7_layChanged 3 = .ok (.bipush 40, 2) := by decide +kernel
theorem dX7_layChanged_5 : decode cX7_layChanged 5 = .ok (.if_icmp .ge 34, 3) := by decide +kernel
theorem dX7_layChanged_8 : decode cX7_layChanged 8 = .ok (.aload_n 0, 1) := by decide +kernel
theorem dX7_layChanged_9 : decode cX7_layChanged 9 = .ok (.getfield 20, 3) := by decide +kernel
theorem dX7_layChanged_12 : decode cX7_layChanged 12 = .ok (.iload_n 1, 1) := by decide +kernel
theorem dX7_layChanged_13 : decode cX7_layChanged 13 = .ok (.aload_n 0, 1) := by decide +kernel
theorem dX7_layChanged_14 : decode cX7_layChanged 14 = .ok (.getfield 7, 3) := by decide +kernel
theorem dX7_layChanged_17 : decode cX7_layChanged 17 = .ok (.sipush 663, 3) := by decide +kernel
theorem dX7_layChanged_20 : decode cX7_layChanged 20 = .ok (.iload_n 1, 1) := by decide +kernel
theorem dX7_layChanged_21 : decode cX7_layChanged 21 = .ok (.iadd, 1) := by decide +kernel
theorem dX7_layChanged_22 : decode cX7_layChanged 22 = .ok (.iaload, 1) := by decide +kernel
theorem dX7_layChanged_23 : decode cX7_layChanged 23 = .ok (.iconst 1, 1) := by decide +kernel
theorem dX7_layChanged_24 : decode cX7_layChanged 24 = .ok (.if_icmp .ne 7, 3) := by decide +kernel
theorem dX7_layChanged_27 : decode cX7_layChanged 27 = .ok (.iconst 1, 1) := by decide +kernel
theorem dX7_layChanged_28 : decode cX7_layChanged 28 = .ok (.goto 4, 3) := by decide +kernel
theorem dX7_layChanged_31 : decode cX7_layChanged 31 = .ok (.iconst 0, 1) := by decide +kernel
theorem dX7_layChanged_32 : decode cX7_layChanged 32 = .ok (.bastore, 1) := by decide +kernel
theorem dX7_layChanged_33 : decode cX7_layChanged 33 = .ok (.iinc 1 1, 3) := by decide +kernel
theorem dX7_layChanged_36 : decode cX7_layChanged 36 = .ok (.goto (-34), 3) := by decide +kernel
theorem dX7_layChanged_39 : decode cX7_layChanged 39 = .ok (.aload_n 0, 1) := by decide +kernel
theorem dX7_layChanged_40 : decode cX7_layChanged 40 = .ok (.invokevirtual 84, 3) := by decide +kernel
theorem dX7_layChanged_43 : decode cX7_layChanged 43 = .ok (.return_, 1) := by decide +kernel
theorem dX7_setOf_0 : decode cX7_setOf 0 = .ok (.iconst 0, 1) := by decide +kernel
theorem dX7_setOf_1 : decode cX7_setOf 1 = .ok (.istore_n 2, 1) := by decide +kernel
theorem dX7_setOf_2 : decode cX7_setOf 2 = .ok (.iconst 0, 1) := by decide +kernel
theorem dX7_setOf_3 : decode cX7_setOf 3 = .ok (.istore_n 3, 1) := by decide +kernel
theorem dX7_setOf_4 : decode cX7_setOf 4 = .ok (.iload_n 3, 1) := by decide +kernel
theorem dX7_setOf_5 : decode cX7_setOf 5 = .ok (.aload_n 0, 1) := by decide +kernel
theorem dX7_setOf_6 : decode cX7_setOf 6 = .ok (.getfield 7, 3) := by decide +kernel
theorem dX7_setOf_9 : decode cX7_setOf 9 = .ok (.iconst 0, 1) := by decide +kernel
theorem dX7_setOf_10 : decode cX7_setOf 10 = .ok (.iaload, 1) := by decide +kernel
theorem dX7_setOf_11 : decode cX7_setOf 11 = .ok (.if_icmp .ge 32, 3) := by decide +kernel
theorem dX7_setOf_14 : decode cX7_setOf 14 = .ok (.iload_n 2, 1) := by decide +kernel
theorem dX7_setOf_15 : decode cX7_setOf 15 = .ok (.aload_n 0, 1) := by decide +kernel
theorem dX7_setOf_16 : decode cX7_setOf 16 = .ok (.getfield 20, 3) := by decide +kernel
theorem dX7_setOf_19 : decode cX7_setOf 19 = .ok (.iconst 2, 1) := by decide +kernel
theorem dX7_setOf_20 : decode cX7_setOf 20 = .ok (.iload_n 3, 1) := by decide +kernel
theorem dX7_setOf_21 : decode cX7_setOf 21 = .ok (.imul, 1) := by decide +kernel
theorem dX7_setOf_22 : decode cX7_setOf 22 = .ok (.iload_n 1, 1) := by decide +kernel
theorem dX7_setOf_23 : decode cX7_setOf 23 = .ok (.iadd, 1) := by decide +kernel
theorem dX7_setOf_24 : decode cX7_setOf 24 = .ok (.baload, 1) := by decide +kernel
theorem dX7_setOf_25 : decode cX7_setOf 25 = .ok (.ifCond .eq 9, 3) := by decide +kernel
theorem dX7_setOf_28 : decode cX7_setOf 28 = .ok (.iconst 1, 1) := by decide +kernel
theorem dX7_setOf_29 : decode cX7_setOf 29 = .ok (.iload_n 3, 1) := by decide +kernel
theorem dX7_setOf_30 : decode cX7_setOf 30 = .ok (.ishl, 1) := by decide +kernel
theorem dX7_setOf_31 : decode cX7_setOf 31 = .ok (.goto 4, 3) := by decide +kernel
theorem dX7_setOf_34 : decode cX7_setOf 34 = .ok (.iconst 0, 1) := by decide +kernel
theorem dX7_setOf_35 : decode cX7_setOf 35 = .ok (.ior, 1) := by decide +kernel
theorem dX7_setOf_36 : decode cX7_setOf 36 = .ok (.istore_n 2, 1) := by decide +kernel
theorem dX7_setOf_37 : decode cX7_setOf 37 = .ok (.iinc 3 1, 3) := by decide +kernel
theorem dX7_setOf_40 : decode cX7_setOf 40 = .ok (.goto (-36), 3) := by decide +kernel
theorem dX7_setOf_43 : decode cX7_setOf 43 = .ok (.iload_n 2, 1) := by decide +kernel
theorem dX7_setOf_44 : decode cX7_setOf 44 = .ok (.ireturn, 1) := by decide +kernel
theorem dX7_clearChanges_0 : decode cX7_clearChanges 0 = .ok (.iconst 0, 1) := by decide +kernel
theorem dX7_clearChanges_1 : decode cX7_clearChanges 1 = .ok (.istore_n 1, 1) := by decide +kernel
theorem dX7_clearChanges_2 : decode cX7_clearChanges 2 = .ok (.iconst 0, 1) := by decide +kernel
theorem dX7_clearChanges_3 : decode cX7_clearChanges 3 = .ok (.istore_n 2, 1) := by decide +kernel
theorem dX7_clearChanges_4 : decode cX7_clearChanges 4 = .ok (.iload_n 2, 1) := by decide +kernel
theorem dX7_clearChanges_5 : decode cX7_clearChanges 5 = .ok (.bipush 40, 2) := by decide +kernel
theorem dX7_clearChanges_7 : decode cX7_clearChanges 7 = .ok (.if_icmp .ge 33, 3) := by decide +kernel
theorem dX7_clearChanges_10 : decode cX7_clearChanges 10 = .ok (.iload_n 1, 1) := by decide +kernel
theorem dX7_clearChanges_11 : decode cX7_clearChanges 11 = .ok (.aload_n 0, 1) := by decide +kernel
theorem dX7_clearChanges_12 : decode cX7_clearChanges 12 = .ok (.getfield 7, 3) := by decide +kernel
theorem dX7_clearChanges_15 : decode cX7_clearChanges 15 = .ok (.sipush 663, 3) := by decide +kernel
theorem dX7_clearChanges_18 : decode cX7_clearChanges 18 = .ok (.iload_n 2, 1) := by decide +kernel
theorem dX7_clearChanges_19 : decode cX7_clearChanges 19 = .ok (.iadd, 1) := by decide +kernel
theorem dX7_clearChanges_20 : decode cX7_clearChanges 20 = .ok (.iaload, 1) := by decide +kernel
theorem dX7_clearChanges_21 : decode cX7_clearChanges 21 = .ok (.iadd, 1) := by decide +kernel
theorem dX7_clearChanges_22 : decode cX7_clearChanges 22 = .ok (.istore_n 1, 1) := by decide +kernel
theorem dX7_clearChanges_23 : decode cX7_clearChanges 23 = .ok (.aload_n 0, 1) := by decide +kernel
theorem dX7_clearChanges_24 : decode cX7_clearChanges 24 = .ok (.getfield 7, 3) := by decide +kernel
theorem dX7_clearChanges_27 : decode cX7_clearChanges 27 = .ok (.sipush 663, 3) := by decide +kernel
theorem dX7_clearChanges_30 : decode cX7_clearChanges 30 = .ok (.iload_n 2, 1) := by decide +kernel
theorem dX7_clearChanges_31 : decode cX7_clearChanges 31 = .ok (.iadd, 1) := by decide +kernel
theorem dX7_clearChanges_32 : decode cX7_clearChanges 32 = .ok (.iconst 0, 1) := by decide +kernel
theorem dX7_clearChanges_33 : decode cX7_clearChanges 33 = .ok (.iastore, 1) := by decide +kernel
theorem dX7_clearChanges_34 : decode cX7_clearChanges 34 = .ok (.iinc 2 1, 3) := by decide +kernel
theorem dX7_clearChanges_37 : decode cX7_clearChanges 37 = .ok (.goto (-33), 3) := by decide +kernel
theorem dX7_clearChanges_40 : decode cX7_clearChanges 40 = .ok (.iload_n 1, 1) := by decide +kernel
theorem dX7_clearChanges_41 : decode cX7_clearChanges 41 = .ok (.ireturn, 1) := by decide +kernel
theorem dX7_isPart_0 : decode cX7_isPart 0 = .ok (.iload_n 0, 1) := by decide +kernel
theorem dX7_isPart_1 : decode cX7_isPart 1 = .ok (.iconst 0, 1) := by decide +kernel
theorem dX7_isPart_2 : decode cX7_isPart 2 = .ok (.iconst 1, 1) := by decide +kernel
theorem dX7_isPart_3 : decode cX7_isPart 3 = .ok (.invokestatic 41, 3) := by decide +kernel
theorem dX7_isPart_6 : decode cX7_isPart 6 = .ok (.ireturn, 1) := by decide +kernel
