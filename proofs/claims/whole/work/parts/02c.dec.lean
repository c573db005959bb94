theorem dX6_init_0 : decode cX6_init 0 = .ok (.aload_n 0, 1) := by decide +kernel
theorem dX6_init_1 : decode cX6_init 1 = .ok (.invokespecial 3, 3) := by decide +kernel
theorem dX6_init_4 : decode cX6_init 4 = .ok (.aload_n 0, 1) := by decide +kernel
theorem dX6_init_5 : decode cX6_init 5 = .ok (.new 9, 3) := by decide +kernel
theorem dX6_init_8 : decode cX6_init 8 = .ok (.dup, 1) := by decide +kernel
theorem dX6_init_9 : decode cX6_init 9 = .ok (.invokespecial 11, 3) := by decide +kernel
theorem dX6_init_12 : decode cX6_init 12 = .ok (.putfield 12, 3) := by decide +kernel
theorem dX6_init_15 : decode cX6_init 15 = .ok (.aload_n 0, 1) := by decide +kernel
theorem dX6_init_16 : decode cX6_init 16 = .ok (.iconst 2, 1) := by decide +kernel
theorem dX6_init_17 : decode cX6_init 17 = .ok (.anewarray 9, 3) := by decide +kernel
theorem dX6_init_20 : decode cX6_init 20 = .ok (.putfield 16, 3) := by decide +kernel
theorem dX6_init_23 : decode cX6_init 23 = .ok (.return_, 1) := by decide +kernel
theorem dX6_addTarget_0 : decode cX6_addTarget 0 = .ok (.aload_n 0, 1) := by decide +kernel
theorem dX6_addTarget_1 : decode cX6_addTarget 1 = .ok (.getfield 12, 3) := by decide +kernel
theorem dX6_addTarget_4 : decode cX6_addTarget 4 = .ok (.getfield 20, 3) := by decide +kernel
theorem dX6_addTarget_7 : decode cX6_addTarget 7 = .ok (.astore_n 3, 1) := by decide +kernel
theorem dX6_addTarget_8 : decode cX6_addTarget 8 = .ok (.iload_n 1, 1) := by decide +kernel
theorem dX6_addTarget_9 : decode cX6_addTarget 9 = .ok (.iconst 3, 1) := by decide +kernel
theorem dX6_addTarget_10 : decode cX6_addTarget 10 = .ok (.invokestatic 24, 3) := by decide +kernel
theorem dX6_addTarget_13 : decode cX6_addTarget 13 = .ok (.ifCond .eq 14, 3) := by decide +kernel
theorem dX6_addTarget_16 : decode cX6_addTarget 16 = .ok (.iload_n 2, 1) := by decide +kernel
theorem dX6_addTarget_17 : decode cX6_addTarget 17 = .ok (.iconst 1, 1) := by decide +kernel
theorem dX6_addTarget_18 : decode cX6_addTarget 18 = .ok (.if_icmp .lt 9, 3) := by decide +kernel
theorem dX6_addTarget_21 : decode cX6_addTarget 21 = .ok (.iload_n 2, 1) := by decide +kernel
theorem dX6_addTarget_22 : decode cX6_addTarget 22 = .ok (.bipush 100, 2) := by decide +kernel
theorem dX6_addTarget_24 : decode cX6_addTarget 24 = .ok (.if_icmp .le 6, 3) := by decide +kernel
theorem dX6_addTarget_27 : decode cX6_addTarget 27 = .ok (.bipush (-3), 2) := by decide +kernel
theorem dX6_addTarget_29 : decode cX6_addTarget 29 = .ok (.ireturn, 1) := by decide +kernel
theorem dX6_addTarget_30 : decode cX6_addTarget 30 = .ok (.aload_n 3, 1) := by decide +kernel
theorem dX6_addTarget_31 : decode cX6_addTarget 31 = .ok (.getfield 28, 3) := by decide +kernel
theorem dX6_addTarget_34 : decode cX6_addTarget 34 = .ok (.bipush 20, 2) := by decide +kernel
theorem dX6_addTarget_36 : decode cX6_addTarget 36 = .ok (.if_icmp .ge 17, 3) := by decide +kernel
theorem dX6_addTarget_39 : decode cX6_addTarget 39 = .ok (.iload_n 1, 1) := by decide +kernel
theorem dX6_addTarget_40 : decode cX6_addTarget 40 = .ok (.iconst 2, 1) := by decide +kernel
theorem dX6_addTarget_41 : decode cX6_addTarget 41 = .ok (.if_icmp .ne 15, 3) := by decide +kernel
theorem dX6_addTarget_44 : decode cX6_addTarget 44 = .ok (.aload_n 3, 1) := by decide +kernel
theorem dX6_addTarget_45 : decode cX6_addTarget 45 = .ok (.invokevirtual 34, 3) := by decide +kernel
theorem dX6_addTarget_48 : decode cX6_addTarget 48 = .ok (.bipush 10, 2) := by decide +kernel
theorem dX6_addTarget_50 : decode cX6_addTarget 50 = .ok (.if_icmp .lt 6, 3) := by decide +kernel
theorem dX6_addTarget_53 : decode cX6_addTarget 53 = .ok (.bipush (-8), 2) := by decide +kernel
theorem dX6_addTarget_55 : decode cX6_addTarget 55 = .ok (.ireturn, 1) := by decide +kernel
theorem dX6_addTarget_56 : decode cX6_addTarget 56 = .ok (.aload_n 3, 1) := by decide +kernel
theorem dX6_addTarget_57 : decode cX6_addTarget 57 = .ok (.iload_n 1, 1) := by decide +kernel
theorem dX6_addTarget_58 : decode cX6_addTarget 58 = .ok (.iload_n 2, 1) := by decide +kernel
theorem dX6_addTarget_59 : decode cX6_addTarget 59 = .ok (.invokevirtual 38, 3) := by decide +kernel
theorem dX6_addTarget_62 : decode cX6_addTarget 62 = .ok (.ireturn, 1) := by decide +kernel
theorem dX6_targetCount_0 : decode cX6_targetCount 0 = .ok (.aload_n 0, 1) := by decide +kernel
theorem dX6_targetCount_1 : decode cX6_targetCount 1 = .ok (.getfield 12, 3) := by decide +kernel
theorem dX6_targetCount_4 : decode cX6_targetCount 4 = .ok (.getfield 20, 3) := by decide +kernel
theorem dX6_targetCount_7 : decode cX6_targetCount 7 = .ok (.getfield 28, 3) := by decide +kernel
theorem dX6_targetCount_10 : decode cX6_targetCount 10 = .ok (.ireturn, 1) := by decide +kernel
theorem dX6_addDependency_0 : decode cX6_addDependency 0 = .ok (.aload_n 0, 1) := by decide +kernel
theorem dX6_addDependency_1 : decode cX6_addDependency 1 = .ok (.getfield 12, 3) := by decide +kernel
theorem dX6_addDependency_4 : decode cX6_addDependency 4 = .ok (.getfield 20, 3) := by decide +kernel
theorem dX6_addDependency_7 : decode cX6_addDependency 7 = .ok (.astore 4, 2) := by decide +kernel
theorem dX6_addDependency_9 : decode cX6_addDependency 9 = .ok (.aload 4, 2) := by decide +kernel
theorem dX6_addDependency_11 : decode cX6_addDependency 11 = .ok (.iload_n 1, 1) := by decide +kernel
theorem dX6_addDependency_12 : decode cX6_addDependency 12 = .ok (.invokevirtual 42, 3) := by decide +kernel
theorem dX6_addDependency_15 : decode cX6_addDependency 15 = .ok (.ifCond .eq 12, 3) := by decide +kernel
theorem dX6_addDependency_18 : decode cX6_addDependency 18 = .ok (.aload 4, 2) := by decide +kernel
theorem dX6_addDependency_20 : decode cX6_addDependency 20 = .ok (.iload_n 2, 1) := by decide +kernel
theorem dX6_addDependency_21 : decode cX6_addDependency 21 = .ok (.invokevirtual 42, 3) := by decide +kernel
theorem dX6_addDependency_24 : decode cX6_addDependency 24 = .ok (.ifCond .ne 5, 3) := by decide +kernel
theorem dX6_addDependency_27 : decode cX6_addDependency 27 = .ok (.iconst (-1), 1) := by decide +kernel
theorem dX6_addDependency_28 : decode cX6_addDependency 28 = .ok (.ireturn, 1) := by decide +kernel
theorem dX6_addDependency_29 : decode cX6_addDependency 29 = .ok (.iload_n 1, 1) := by decide +kernel
theorem dX6_addDependency_30 : decode cX6_addDependency 30 = .ok (.iload_n 2, 1) := by decide +kernel
theorem dX6_addDependency_31 : decode cX6_addDependency 31 = .ok (.if_icmp .ne 6, 3) := by decide +kernel
theorem dX6_addDependency_34 : decode cX6_addDependency 34 = .ok (.bipush (-4), 2) := by decide +kernel
theorem dX6_addDependency_36 : decode cX6_addDependency 36 = .ok (.ireturn, 1) := by decide +kernel
theorem dX6_addDependency_37 : decode cX6_addDependency 37 = .ok (.iload_n 3, 1) := by decide +kernel
theorem dX6_addDependency_38 : decode cX6_addDependency 38 = .ok (.iconst 4, 1) := by decide +kernel
theorem dX6_addDependency_39 : decode cX6_addDependency 39 = .ok (.invokestatic 24, 3) := by decide +kernel
theorem dX6_addDependency_42 : decode cX6_addDependency 42 = .ok (.ifCond .ne 6, 3) := by decide +kernel
theorem dX6_addDependency_45 : decode cX6_addDependency 45 = .ok (.bipush (-3), 2) := by decide +kernel
theorem dX6_addDependency_47 : decode cX6_addDependency 47 = .ok (.ireturn, 1) := by decide +kernel
theorem dX6_addDependency_48 : decode cX6_addDependency 48 = .ok (.aload 4, 2) := by decide +kernel
theorem dX6_addDependency_50 : decode cX6_addDependency 50 = .ok (.iload_n 1, 1) := by decide +kernel
theorem dX6_addDependency_51 : decode cX6_addDependency 51 = .ok (.iload_n 2, 1) := by decide +kernel
theorem dX6_addDependency_52 : decode cX6_addDependency 52 = .ok (.iload_n 3, 1) := by decide +kernel
theorem dX6_addDependency_53 : decode cX6_addDependency 53 = .ok (.invokevirtual 46, 3) := by decide +kernel
theorem dX6_addDependency_56 : decode cX6_addDependency 56 = .ok (.ifCond .ne 6, 3) := by decide +kernel
theorem dX6_addDependency_59 : decode cX6_addDependency 59 = .ok (.bipush (-5), 2) := by decide +kernel
theorem dX6_addDependency_61 : decode cX6_addDependency 61 = .ok (.ireturn, 1) := by decide +kernel
theorem dX6_addDependency_62 : decode cX6_addDependency 62 = .ok (.aload 4, 2) := by decide +kernel
theorem dX6_addDependency_64 : decode cX6_addDependency 64 = .ok (.iload_n 1, 1) := by decide +kernel
theorem dX6_addDependency_65 : decode cX6_addDependency 65 = .ok (.iload_n 2, 1) := by decide +kernel
theorem dX6_addDependency_66 : decode cX6_addDependency 66 = .ok (.invokevirtual 50, 3) := by decide +kernel
theorem dX6_addDependency_69 : decode cX6_addDependency 69 = .ok (.bipush (-10), 2) := by decide +kernel
theorem dX6_addDependency_71 : decode cX6_addDependency 71 = .ok (.if_icmp .eq 6, 3) := by decide +kernel
theorem dX6_addDependency_74 : decode cX6_addDependency 74 = .ok (.bipush (-6), 2) := by decide +kernel
theorem dX6_addDependency_76 : decode cX6_addDependency 76 = .ok (.ireturn, 1) := by decide +kernel
theorem dX6_addDependency_77 : decode cX6_addDependency 77 = .ok (.aload 4, 2) := by decide +kernel
theorem dX6_addDependency_79 : decode cX6_addDependency 79 = .ok (.iload_n 1, 1) := by decide +kernel
theorem dX6_addDependency_80 : decode cX6_addDependency 80 = .ok (.invokestatic 53, 3) := by decide +kernel
theorem dX6_addDependency_83 : decode cX6_addDependency 83 = .ok (.bipush 15, 2) := by decide +kernel
theorem dX6_addDependency_85 : decode cX6_addDependency 85 = .ok (.invokevirtual 57, 3) := by decide +kernel
theorem dX6_addDependency_88 : decode cX6_addDependency 88 = .ok (.iload_n 2, 1) := by decide +kernel
theorem dX6_addDependency_89 : decode cX6_addDependency 89 = .ok (.invokestatic 60, 3) := by decide +kernel
theorem dX6_addDependency_92 : decode cX6_addDependency 92 = .ok (.ifCond .eq 6, 3) := by decide +kernel
theorem dX6_addDependency_95 : decode cX6_addDependency 95 = .ok (.bipush (-7), 2) := by decide +kernel
theorem dX6_addDependency_97 : decode cX6_addDependency 97 = .ok (.ireturn, 1) := by decide +kernel
theorem dX6_addDependency_98 : decode cX6_addDependency 98 = .ok (.aload 4, 2) := by decide +kernel
theorem dX6_addDependency_100 : decode cX6_addDependency 100 = .ok (.getfield 63, 3) := by decide +kernel
theorem dX6_addDependency_103 : decode cX6_addDependency 103 = .ok (.bipush 60, 2) := by decide +kernel
theorem dX6_addDependency_105 : decode cX6_addDependency 105 = .ok (.if_icmp .lt 6, 3) := by decide +kernel
theorem dX6_addDependency_108 : decode cX6_addDependency 108 = .ok (.bipush (-8), 2) := by decide +kernel
theorem dX6_addDependency_110 : decode cX6_addDependency 110 = .ok (.ireturn, 1) := by decide +kernel
theorem dX6_addDependency_111 : decode cX6_addDependency 111 = .ok (.aload 4, 2) := by decide +kernel
theorem dX6_addDependency_113 : decode cX6_addDependency 113 = .ok (.iload_n 1, 1) := by decide +kernel
theorem dX6_addDependency_114 : decode cX6_addDependency 114 = .ok (.iload_n 2, 1) := by decide +kernel
theorem dX6_addDependency_115 : decode cX6_addDependency 115 = .ok (.iload_n 3, 1) := by decide +kernel
theorem dX6_addDependency_116 : decode cX6_addDependency 116 = .ok (.invokevirtual 66, 3) := by decide +kernel
theorem dX6_addDependency_119 : decode cX6_addDependency 119 = .ok (.aload 4, 2) := by decide +kernel
theorem dX6_addDependency_121 : decode cX6_addDependency 121 = .ok (.getfield 63, 3) := by decide +kernel
theorem dX6_addDependency_124 : decode cX6_addDependency 124 = .ok (.ireturn, 1) := by decide +kernel
theorem dX6_removeDependency_0 : decode cX6_removeDependency 0 = .ok (.aload_n 0, 1) := by decide +kernel
theorem dX6_removeDependency_1 : decode cX6_removeDependency 1 = .ok (.getfield 12, 3) := by decide +kernel
theorem dX6_removeDependency_4 : decode cX6_removeDependency 4 = .ok (.getfield 20, 3) := by decide +kernel
theorem dX6_removeDependency_7 : decode cX6_removeDependency 7 = .ok (.astore_n 3, 1) := by decide +kernel
theorem dX6_removeDependency_8 : decode cX6_removeDependency 8 = .ok (.aload_n 3, 1) := by decide +kernel
theorem dX6_removeDependency_9 : decode cX6_removeDependency 9 = .ok (.iload_n 1, 1) := by decide +kernel
theorem dX6_removeDependency_10 : decode cX6_removeDependency 10 = .ok (.invokevirtual 42, 3) := by decide +kernel
theorem dX6_removeDependency_13 : decode cX6_removeDependency 13 = .ok (.ifCond .eq 11, 3) := by decide +kernel
theorem dX6_removeDependency_16 : decode cX6_removeDependency 16 = .ok (.aload_n 3, 1) := by decide +kernel
theorem dX6_removeDependency_17 : decode cX6_removeDependency 17 = .ok (.iload_n 2, 1) := by decide +kernel
theorem dX6_removeDependency_18 : decode cX6_removeDependency 18 = .ok (.invokevirtual 42, 3) := by decide +kernel
theorem dX6_removeDependency_21 : decode cX6_removeDependency 21 = .ok (.ifCond .ne 5, 3) := by decide +kernel
theorem dX6_removeDependency_24 : decode cX6_removeDependency 24 = .ok (.iconst (-1), 1) := by decide +kernel
theorem dX6_removeDependency_25 : decode cX6_removeDependency 25 = .ok (.ireturn, 1) := by decide +kernel
theorem dX6_removeDependency_26 : decode cX6_removeDependency 26 = .ok (.aload_n 3, 1) := by decide +kernel
theorem dX6_removeDependency_27 : decode cX6_removeDependency 27 = .ok (.iload_n 1, 1) := by decide +kernel
theorem dX6_removeDependency_28 : decode cX6_removeDependency 28 = .ok (.iload_n 2, 1) := by decide +kernel
theorem dX6_removeDependency_29 : decode cX6_removeDependency 29 = .ok (.invokevirtual 50, 3) := by decide +kernel
theorem dX6_removeDependency_32 : decode cX6_removeDependency 32 = .ok (.istore 4, 2) := by decide +kernel
theorem dX6_removeDependency_34 : decode cX6_removeDependency 34 = .ok (.iload 4, 2) := by decide +kernel
theorem dX6_removeDependency_36 : decode cX6_removeDependency 36 = .ok (.bipush (-10), 2) := by decide +kernel
theorem dX6_removeDependency_38 : decode cX6_removeDependency 38 = .ok (.if_icmp .eq 11, 3) := by decide +kernel
theorem dX6_removeDependency_41 : decode cX6_removeDependency 41 = .ok (.aload_n 3, 1) := by decide +kernel
theorem dX6_removeDependency_42 : decode cX6_removeDependency 42 = .ok (.iload_n 1, 1) := by decide +kernel
theorem dX6_removeDependency_43 : decode cX6_removeDependency 43 = .ok (.iload_n 2, 1) := by decide +kernel
theorem dX6_removeDependency_44 : decode cX6_removeDependency 44 = .ok (.iload 4, 2) := by decide +kernel
theorem dX6_removeDependency_46 : decode cX6_removeDependency 46 = .ok (.invokevirtual 70, 3) := by decide +kernel
theorem dX6_removeDependency_49 : decode cX6_removeDependency 49 = .ok (.iload 4, 2) := by decide +kernel
theorem dX6_removeDependency_51 : decode cX6_removeDependency 51 = .ok (.ireturn, 1) := by decide +kernel
theorem dX6_addFile_0 : decode cX6_addFile 0 = .ok (.aload_n 0, 1) := by decide +kernel
theorem dX6_addFile_1 : decode cX6_addFile 1 = .ok (.getfield 12, 3) := by decide +kernel
theorem dX6_addFile_4 : decode cX6_addFile 4 = .ok (.getfield 73, 3) := by decide +kernel
theorem dX6_addFile_7 : decode cX6_addFile 7 = .ok (.astore 4, 2) := by decide +kernel
theorem dX6_addFile_9 : decode cX6_addFile 9 = .ok (.aload_n 0, 1) := by decide +kernel
theorem dX6_addFile_10 : decode cX6_addFile 10 = .ok (.getfield 12, 3) := by decide +kernel
theorem dX6_addFile_13 : decode cX6_addFile 13 = .ok (.getfield 20, 3) := by decide +kernel
theorem dX6_addFile_16 : decode cX6_addFile 16 = .ok (.iload_n 1, 1) := by decide +kernel
theorem dX6_addFile_17 : decode cX6_addFile 17 = .ok (.invokevirtual 42, 3) := by decide +kernel
theorem dX6_addFile_20 : decode cX6_addFile 20 = .ok (.ifCond .ne 5, 3) := by decide +kernel
theorem dX6_addFile_23 : decode cX6_addFile 23 = .ok (.iconst (-1), 1) := by decide +kernel
theorem dX6_addFile_24 : decode cX6_addFile 24 = .ok (.ireturn, 1) := by decide +kernel
theorem dX6_addFile_25 : decode cX6_addFile 25 = .ok (.iload_n 3, 1) := by decide +kernel
theorem dX6_addFile_26 : decode cX6_addFile 26 = .ok (.bipush 100, 2) := by decide +kernel
theorem dX6_addFile_28 : decode cX6_addFile 28 = .ok (.invokestatic 24, 3) := by decide +kernel
theorem dX6_addFile_31 : decode cX6_addFile 31 = .ok (.ifCond .ne 6, 3) := by decide +kernel
theorem dX6_addFile_34 : decode cX6_addFile 34 = .ok (.bipush (-3), 2) := by decide +kernel
theorem dX6_addFile_36 : decode cX6_addFile 36 = .ok (.ireturn, 1) := by decide +kernel
theorem dX6_addFile_37 : decode cX6_addFile 37 = .ok (.aload 4, 2) := by decide +kernel
theorem dX6_addFile_39 : decode cX6_addFile 39 = .ok (.iload_n 3, 1) := by decide +kernel
theorem dX6_addFile_40 : decode cX6_addFile 40 = .ok (.invokevirtual 77, 3) := by decide +kernel
theorem dX6_addFile_43 : decode cX6_addFile 43 = .ok (.ifCond .eq 6, 3) := by decide +kernel
theorem dX6_addFile_46 : decode cX6_addFile 46 = .ok (.bipush (-9), 2) := by decide +kernel
theorem dX6_addFile_48 : decode cX6_addFile 48 = .ok (.ireturn, 1) := by decide +kernel
theorem dX6_addFile_49 : decode cX6_addFile 49 = .ok (.aload 4, 2) := by decide +kernel
theorem dX6_addFile_51 : decode cX6_addFile 51 = .ok (.getfield 82, 3) := by decide +kernel
theorem dX6_addFile_54 : decode cX6_addFile 54 = .ok (.bipush 40, 2) := by decide +kernel
theorem dX6_addFile_56 : decode cX6_addFile 56 = .ok (.if_icmp .lt 6, 3) := by decide +kernel
theorem dX6_addFile_59 : decode cX6_addFile 59 = .ok (.bipush (-8), 2) := by decide +kernel
theorem dX6_addFile_61 : decode cX6_addFile 61 = .ok (.ireturn, 1) := by decide +kernel
theorem dX6_addFile_62 : decode cX6_addFile 62 = .ok (.aload 4, 2) := by decide +kernel
theorem dX6_addFile_64 : decode cX6_addFile 64 = .ok (.iload_n 1, 1) := by decide +kernel
theorem dX6_addFile_65 : decode cX6_addFile 65 = .ok (.iload_n 2, 1) := by decide +kernel
theorem dX6_addFile_66 : decode cX6_addFile 66 = .ok (.iload_n 3, 1) := by decide +kernel
theorem dX6_addFile_67 : decode cX6_addFile 67 = .ok (.invokevirtual 83, 3) := by decide +kernel
theorem dX6_addFile_70 : decode cX6_addFile 70 = .ok (.istore 5, 2) := by decide +kernel
theorem dX6_addFile_72 : decode cX6_addFile 72 = .ok (.aload_n 0, 1) := by decide +kernel
theorem dX6_addFile_73 : decode cX6_addFile 73 = .ok (.getfield 12, 3) := by decide +kernel
theorem dX6_addFile_76 : decode cX6_addFile 76 = .ok (.iload 5, 2) := by decide +kernel
theorem dX6_addFile_78 : decode cX6_addFile 78 = .ok (.invokevirtual 86, 3) := by decide +kernel
theorem dX6_addFile_81 : decode cX6_addFile 81 = .ok (.iload 5, 2) := by decide +kernel
theorem dX6_addFile_83 : decode cX6_addFile 83 = .ok (.ireturn, 1) := by decide +kernel
theorem dX6_edit_0 : decode cX6_edit 0 = .ok (.aload_n 0, 1) := by decide +kernel
theorem dX6_edit_1 : decode cX6_edit 1 = .ok (.getfield 12, 3) := by decide +kernel
theorem dX6_edit_4 : decode cX6_edit 4 = .ok (.getfield 73, 3) := by decide +kernel
theorem dX6_edit_7 : decode cX6_edit 7 = .ok (.iload_n 1, 1) := by decide +kernel
theorem dX6_edit_8 : decode cX6_edit 8 = .ok (.invokevirtual 90, 3) := by decide +kernel
theorem dX6_edit_11 : decode cX6_edit 11 = .ok (.ifCond .ne 6, 3) := by decide +kernel
theorem dX6_edit_14 : decode cX6_edit 14 = .ok (.bipush (-2), 2) := by decide +kernel
theorem dX6_edit_16 : decode cX6_edit 16 = .ok (.ireturn, 1) := by decide +kernel
theorem dX6_edit_17 : decode cX6_edit 17 = .ok (.aload_n 0, 1) := by decide +kernel
theorem dX6_edit_18 : decode cX6_edit 18 = .ok (.getfield 12, 3) := by decide +kernel
theorem dX6_edit_21 : decode cX6_edit 21 = .ok (.iload_n 1, 1) := by decide +kernel
theorem dX6_edit_22 : decode cX6_edit 22 = .ok (.invokevirtual 86, 3) := by decide +kernel
theorem dX6_edit_25 : decode cX6_edit 25 = .ok (.aload_n 0, 1) := by decide +kernel
theorem dX6_edit_26 : decode cX6_edit 26 = .ok (.getfield 12, 3) := by decide +kernel
theorem dX6_edit_29 : decode cX6_edit 29 = .ok (.getfield 73, 3) := by decide +kernel
theorem dX6_edit_32 : decode cX6_edit 32 = .ok (.getfield 91, 3) := by decide +kernel
theorem dX6_edit_35 : decode cX6_edit 35 = .ok (.iload_n 1, 1) := by decide +kernel
theorem dX6_edit_36 : decode cX6_edit 36 = .ok (.iaload, 1) := by decide +kernel
theorem dX6_edit_37 : decode cX6_edit 37 = .ok (.ireturn, 1) := by decide +kernel
theorem dX6_rename_0 : decode cX6_rename 0 = .ok (.aload_n 0, 1) := by decide +kernel
theorem dX6_rename_1 : decode cX6_rename 1 = .ok (.getfield 12, 3) := by decide +kernel
theorem dX6_rename_4 : decode cX6_rename 4 = .ok (.getfield 73, 3) := by decide +kernel
theorem dX6_rename_7 : decode cX6_rename 7 = .ok (.astore_n 3, 1) := by decide +kernel
theorem dX6_rename_8 : decode cX6_rename 8 = .ok (.aload_n 3, 1) := by decide +kernel
theorem dX6_rename_9 : decode cX6_rename 9 = .ok (.iload_n 1, 1) := by decide +kernel
theorem dX6_rename_10 : decode cX6_rename 10 = .ok (.invokevirtual 90, 3) := by decide +kernel
theorem dX6_rename_13 : decode cX6_rename 13 = .ok (.ifCond .ne 6, 3) := by decide +kernel
theorem dX6_rename_16 : decode cX6_rename 16 = .ok (.bipush (-2), 2) := by decide +kernel
theorem dX6_rename_18 : decode cX6_rename 18 = .ok (.ireturn, 1) := by decide +kernel
theorem dX6_rename_19 : decode cX6_rename 19 = .ok (.iload_n 2, 1) := by decide +kernel
theorem dX6_rename_20 : decode cX6_rename 20 = .ok (.bipush 100, 2) := by decide +kernel
theorem dX6_rename_22 : decode cX6_rename 22 = .ok (.invokestatic 24, 3) := by decide +kernel
theorem dX6_rename_25 : decode cX6_rename 25 = .ok (.ifCond .ne 6, 3) := by decide +kernel
theorem dX6_rename_28 : decode cX6_rename 28 = .ok (.bipush (-3), 2) := by decide +kernel
theorem dX6_rename_30 : decode cX6_rename 30 = .ok (.ireturn, 1) := by decide +kernel
theorem dX6_rename_31 : decode cX6_rename 31 = .ok (.aload_n 3, 1) := by decide +kernel
theorem dX6_rename_32 : decode cX6_rename 32 = .ok (.iload_n 2, 1) := by decide +kernel
theorem dX6_rename_33 : decode cX6_rename 33 = .ok (.invokevirtual 77, 3) := by decide +kernel
theorem dX6_rename_36 : decode cX6_rename 36 = .ok (.ifCond .eq 6, 3) := by decide +kernel
theorem dX6_rename_39 : decode cX6_rename 39 = .ok (.bipush (-9), 2) := by decide +kernel
theorem dX6_rename_41 : decode cX6_rename 41 = .ok (.ireturn, 1) := by decide +kernel
theorem dX6_rename_42 : decode cX6_rename 42 = .ok (.aload_n 3, 1) := by decide +kernel
theorem dX6_rename_43 : decode cX6_rename 43 = .ok (.getfield 95, 3) := by decide +kernel
theorem dX6_rename_46 : decode cX6_rename 46 = .ok (.iload_n 1, 1) := by decide +kernel
theorem dX6_rename_47 : decode cX6_rename 47 = .ok (.iaload, 1) := by decide +kernel
theorem dX6_rename_48 : decode cX6_rename 48 = .ok (.istore 4, 2) := by decide +kernel
theorem dX6_rename_50 : decode cX6_rename 50 = .ok (.aload_n 3, 1) := by decide +kernel
theorem dX6_rename_51 : decode cX6_rename 51 = .ok (.iload_n 1, 1) := by decide +kernel
theorem dX6_rename_52 : decode cX6_rename 52 = .ok (.iload_n 2, 1) := by decide +kernel
theorem dX6_rename_53 : decode cX6_rename 53 = .ok (.invokevirtual 98, 3) := by decide +kernel
theorem dX6_rename_56 : decode cX6_rename 56 = .ok (.aload_n 3, 1) := by decide +kernel
theorem dX6_rename_57 : decode cX6_rename 57 = .ok (.getfield 102, 3) := by decide +kernel
theorem dX6_rename_60 : decode cX6_rename 60 = .ok (.iload_n 1, 1) := by decide +kernel
theorem dX6_rename_61 : decode cX6_rename 61 = .ok (.baload, 1) := by decide +kernel
theorem dX6_rename_62 : decode cX6_rename 62 = .ok (.ifCond .eq 11, 3) := by decide +kernel
theorem dX6_rename_65 : decode cX6_rename 65 = .ok (.aload_n 0, 1) := by decide +kernel
theorem dX6_rename_66 : decode cX6_rename 66 = .ok (.getfield 12, 3) := by decide +kernel
theorem dX6_rename_69 : decode cX6_rename 69 = .ok (.iload_n 1, 1) := by decide +kernel
theorem dX6_rename_70 : decode cX6_rename 70 = .ok (.invokevirtual 86, 3) := by decide +kernel
theorem dX6_rename_73 : decode cX6_rename 73 = .ok (.iload 4, 2) := by decide +kernel
theorem dX6_rename_75 : decode cX6_rename 75 = .ok (.ireturn, 1) := by decide +kernel
theorem dX6_move_0 : decode cX6_move 0 = .ok (.aload_n 0, 1) := by decide +kernel
theorem dX6_move_1 : decode cX6_move 1 = .ok (.getfield 12, 3) := by decide +kernel
theorem dX6_move_4 : decode cX6_move 4 = .ok (.getfield 73, 3) := by decide +kernel
theorem dX6_move_7 : decode cX6_move 7 = .ok (.astore_n 3, 1) := by decide +kernel
theorem dX6_move_8 : decode cX6_move 8 = .ok (.aload_n 3, 1) := by decide +kernel
theorem dX6_move_9 : decode cX6_move 9 = .ok (.iload_n 1, 1) := by decide +kernel
theorem dX6_move_10 : decode cX6_move 10 = .ok (.invokevirtual 90, 3) := by decide +kernel
theorem dX6_move_13 : decode cX6_move 13 = .ok (.ifCond .ne 6, 3) := by decide +kernel
theorem dX6_move_16 : decode cX6_move 16 = .ok (.bipush (-2), 2) := by decide +kernel
theorem dX6_move_18 : decode cX6_move 18 = .ok (.ireturn, 1) := by decide +kernel
theorem dX6_move_19 : decode cX6_move 19 = .ok (.aload_n 0, 1) := by decide +kernel
theorem dX6_move_20 : decode cX6_move 20 = .ok (.getfield 12, 3) := by decide +kernel
theorem dX6_move_23 : decode cX6_move 23 = .ok (.getfield 20, 3) := by decide +kernel
theorem dX6_move_26 : decode cX6_move 26 = .ok (.iload_n 2, 1) := by decide +kernel
theorem dX6_move_27 : decode cX6_move 27 = .ok (.invokevirtual 42, 3) := by decide +kernel
theorem dX6_move_30 : decode cX6_move 30 = .ok (.ifCond .ne 5, 3) := by decide +kernel
theorem dX6_move_33 : decode cX6_move 33 = .ok (.iconst (-1), 1) := by decide +kernel
theorem dX6_move_34 : decode cX6_move 34 = .ok (.ireturn, 1) := by decide +kernel
theorem dX6_move_35 : decode cX6_move 35 = .ok (.aload_n 3, 1) := by decide +kernel
theorem dX6_move_36 : decode cX6_move 36 = .ok (.getfield 91, 3) := by decide +kernel
theorem dX6_move_39 : decode cX6_move 39 = .ok (.iload_n 1, 1) := by decide +kernel
theorem dX6_move_40 : decode cX6_move 40 = .ok (.iaload, 1) := by decide +kernel
theorem dX6_move_41 : decode cX6_move 41 = .ok (.istore 4, 2) := by decide +kernel
theorem dX6_move_43 : decode cX6_move 43 = .ok (.iload 4, 2) := by decide +kernel
theorem dX6_move_45 : decode cX6_move 45 = .ok (.iload_n 2, 1) := by decide +kernel
theorem dX6_move_46 : decode cX6_move 46 = .ok (.if_icmp .ne 6, 3) := by decide +kernel
theorem dX6_move_49 : decode cX6_move 49 = .ok (.bipush (-4), 2) := by decide +kernel
theorem dX6_move_51 : decode cX6_move 51 = .ok (.ireturn, 1) := by decide +kernel
theorem dX6_move_52 : decode cX6_move 52 = .ok (.aload_n 0, 1) := by decide +kernel
theorem dX6_move_53 : decode cX6_move 53 = .ok (.getfield 12, 3) := by decide +kernel
theorem dX6_move_56 : decode cX6_move 56 = .ok (.iload_n 1, 1) := by decide +kernel
theorem dX6_move_57 : decode cX6_move 57 = .ok (.invokevirtual 86, 3) := by decide +kernel
theorem dX6_move_60 : decode cX6_move 60 = .ok (.aload_n 3, 1) := by decide +kernel
theorem dX6_move_61 : decode cX6_move 61 = .ok (.getfield 91, 3) := by decide +kernel
theorem dX6_move_64 : decode cX6_move 64 = .ok (.iload_n 1, 1) := by decide +kernel
theorem dX6_move_65 : decode cX6_move 65 = .ok (.iload_n 2, 1) := by decide +kernel
theorem dX6_move_66 : decode cX6_move 66 = .ok (.iastore, 1) := by decide +kernel
theorem dX6_move_67 : decode cX6_move 67 = .ok (.aload_n 0, 1) := by decide +kernel
theorem dX6_move_68 : decode cX6_move 68 = .ok (.getfield 12, 3) := by decide +kernel
theorem dX6_move_71 : decode cX6_move 71 = .ok (.iload_n 1, 1) := by decide +kernel
theorem dX6_move_72 : decode cX6_move 72 = .ok (.invokevirtual 86, 3) := by decide +kernel
theorem dX6_move_75 : decode cX6_move 75 = .ok (.iload 4, 2) := by decide +kernel
theorem dX6_move_77 : decode cX6_move 77 = .ok (.ireturn, 1) := by decide +kernel
theorem dX6_deleteFile_0 : decode cX6_deleteFile 0 = .ok (.aload_n 0, 1) := by decide +kernel
theorem dX6_deleteFile_1 : decode cX6_deleteFile 1 = .ok (.getfield 12, 3) := by decide +kernel
theorem dX6_deleteFile_4 : decode cX6_deleteFile 4 = .ok (.getfield 73, 3) := by decide +kernel
theorem dX6_deleteFile_7 : decode cX6_deleteFile 7 = .ok (.astore_n 2, 1) := by decide +kernel
theorem dX6_deleteFile_8 : decode cX6_deleteFile 8 = .ok (.aload_n 2, 1) := by decide +kernel
theorem dX6_deleteFile_9 : decode cX6_deleteFile 9 = .ok (.iload_n 1, 1) := by decide +kernel
theorem dX6_deleteFile_10 : decode cX6_deleteFile 10 = .ok (.invokevirtual 90, 3) := by decide +kernel
theorem dX6_deleteFile_13 : decode cX6_deleteFile 13 = .ok (.ifCond .ne 6, 3) := by decide +kernel
theorem dX6_deleteFile_16 : decode cX6_deleteFile 16 = .ok (.bipush (-2), 2) := by decide +kernel
theorem dX6_deleteFile_18 : decode cX6_deleteFile 18 = .ok (.ireturn, 1) := by decide +kernel
theorem dX6_deleteFile_19 : decode cX6_deleteFile 19 = .ok (.aload_n 0, 1) := by decide +kernel
theorem dX6_deleteFile_20 : decode cX6_deleteFile 20 = .ok (.getfield 12, 3) := by decide +kernel
theorem dX6_deleteFile_23 : decode cX6_deleteFile 23 = .ok (.iload_n 1, 1) := by decide +kernel
theorem dX6_deleteFile_24 : decode cX6_deleteFile 24 = .ok (.invokevirtual 86, 3) := by decide +kernel
theorem dX6_deleteFile_27 : decode cX6_deleteFile 27 = .ok (.aload_n 2, 1) := by decide +kernel
theorem dX6_deleteFile_28 : decode cX6_deleteFile 28 = .ok (.getfield 106, 3) := by decide +kernel
theorem dX6_deleteFile_31 : decode cX6_deleteFile 31 = .ok (.iload_n 1, 1) := by decide +kernel
theorem dX6_deleteFile_32 : decode cX6_deleteFile 32 = .ok (.iconst 0, 1) := by decide +kernel
theorem dX6_deleteFile_33 : decode cX6_deleteFile 33 = .ok (.bastore, 1) := by decide +kernel
theorem dX6_deleteFile_34 : decode cX6_deleteFile 34 = .ok (.aload_n 2, 1) := by decide +kernel
theorem dX6_deleteFile_35 : decode cX6_deleteFile 35 = .ok (.getfield 95, 3) := by decide +kernel
theorem dX6_deleteFile_38 : decode cX6_deleteFile 38 = .ok (.iload_n 1, 1) := by decide +kernel
theorem dX6_deleteFile_39 : decode cX6_deleteFile 39 = .ok (.iaload, 1) := by decide +kernel
theorem dX6_deleteFile_40 : decode cX6_deleteFile 40 = .ok (.ireturn, 1) := by decide +kernel
theorem dX6_targetOf_0 : decode cX6_targetOf 0 = .ok (.aload_n 0, 1) := by decide +kernel
theorem dX6_targetOf_1 : decode cX6_targetOf 1 = .ok (.getfield 12, 3) := by decide +kernel
theorem dX6_targetOf_4 : decode cX6_targetOf 4 = .ok (.getfield 73, 3) := by decide +kernel
theorem dX6_targetOf_7 : decode cX6_targetOf 7 = .ok (.iload_n 1, 1) := by decide +kernel
theorem dX6_targetOf_8 : decode cX6_targetOf 8 = .ok (.invokevirtual 90, 3) := by decide +kernel
theorem dX6_targetOf_11 : decode cX6_targetOf 11 = .ok (.ifCond .eq 18, 3) := by decide +kernel
theorem dX6_targetOf_14 : decode cX6_targetOf 14 = .ok (.aload_n 0, 1) := by decide +kernel
theorem dX6_targetOf_15 : decode cX6_targetOf 15 = .ok (.getfield 12, 3) := by decide +kernel
theorem dX6_targetOf_18 : decode cX6_targetOf 18 = .ok (.getfield 73, 3) := by decide +kernel
theorem dX6_targetOf_21 : decode cX6_targetOf 21 = .ok (.getfield 91, 3) := by decide +kernel
theorem dX6_targetOf_24 : decode cX6_targetOf 24 = .ok (.iload_n 1, 1) := by decide +kernel
theorem dX6_targetOf_25 : decode cX6_targetOf 25 = .ok (.iaload, 1) := by decide +kernel
theorem dX6_targetOf_26 : decode cX6_targetOf 26 = .ok (.goto 5, 3) := by decide +kernel
theorem dX6_targetOf_29 : decode cX6_targetOf 29 = .ok (.bipush (-2), 2) := by decide +kernel
theorem dX6_targetOf_31 : decode cX6_targetOf 31 = .ok (.ireturn, 1) := by decide +kernel
theorem dX6_nameOf_0 : decode cX6_nameOf 0 = .ok (.aload_n 0, 1) := by decide +kernel
theorem dX6_nameOf_1 : decode cX6_nameOf 1 = .ok (.getfield 12, 3) := by decide +kernel
theorem dX6_nameOf_4 : decode cX6_nameOf 4 = .ok (.getfield 73, 3) := by decide +kernel
theorem dX6_nameOf_7 : decode cX6_nameOf 7 = .ok (.iload_n 1, 1) := by decide +kernel
theorem dX6_nameOf_8 : decode cX6_nameOf 8 = .ok (.invokevirtual 90, 3) := by decide +kernel
theorem dX6_nameOf_11 : decode cX6_nameOf 11 = .ok (.ifCond .eq 18, 3) := by decide +kernel
theorem dX6_nameOf_14 : decode cX6_nameOf 14 = .ok (.aload_n 0, 1) := by decide +kernel
theorem dX6_nameOf_15 : decode cX6_nameOf 15 = .ok (.getfield 12, 3) := by decide +kernel
theorem dX6_nameOf_18 : decode cX6_nameOf 18 = .ok (.getfield 73, 3) := by decide +kernel
theorem dX6_nameOf_21 : decode cX6_nameOf 21 = .ok (.getfield 95, 3) := by decide +kernel
theorem dX6_nameOf_24 : decode cX6_nameOf 24 = .ok (.iload_n 1, 1) := by decide +kernel
theorem dX6_nameOf_25 : decode cX6_nameOf 25 = .ok (.iaload, 1) := by decide +kernel
theorem dX6_nameOf_26 : decode cX6_nameOf 26 = .ok (.goto 5, 3) := by decide +kernel
theorem dX6_nameOf_29 : decode cX6_nameOf 29 = .ok (.bipush (-2), 2) := by decide +kernel
theorem dX6_nameOf_31 : decode cX6_nameOf 31 = .ok (.ireturn, 1) := by decide +kernel
theorem dX6_follow_0 : decode cX6_follow 0 = .ok (.iload_n 1, 1) := by decide +kernel
theorem dX6_follow_1 : decode cX6_follow 1 = .ok (.bipush 100, 2) := by decide +kernel
theorem dX6_follow_3 : decode cX6_follow 3 = .ok (.invokestatic 24, 3) := by decide +kernel
theorem dX6_follow_6 : decode cX6_follow 6 = .ok (.ifCond .ne 6, 3) := by decide +kernel
theorem dX6_follow_9 : decode cX6_follow 9 = .ok (.bipush (-3), 2) := by decide +kernel
theorem dX6_follow_11 : decode cX6_follow 11 = .ok (.ireturn, 1) := by decide +kernel
theorem dX6_follow_12 : decode cX6_follow 12 = .ok (.aload_n 0, 1) := by decide +kernel
theorem dX6_follow_13 : decode cX6_follow 13 = .ok (.getfield 12, 3) := by decide +kernel
theorem dX6_follow_16 : decode cX6_follow 16 = .ok (.getfield 73, 3) := by decide +kernel
theorem dX6_follow_19 : decode cX6_follow 19 = .ok (.getfield 109, 3) := by decide +kernel
theorem dX6_follow_22 : decode cX6_follow 22 = .ok (.iload_n 1, 1) := by decide +kernel
theorem dX6_follow_23 : decode cX6_follow 23 = .ok (.iaload, 1) := by decide +kernel
theorem dX6_follow_24 : decode cX6_follow 24 = .ok (.istore_n 2, 1) := by decide +kernel
theorem dX6_follow_25 : decode cX6_follow 25 = .ok (.aload_n 0, 1) := by decide +kernel
theorem dX6_follow_26 : decode cX6_follow 26 = .ok (.getfield 12, 3) := by decide +kernel
theorem dX6_follow_29 : decode cX6_follow 29 = .ok (.getfield 73, 3) := by decide +kernel
theorem dX6_follow_32 : decode cX6_follow 32 = .ok (.iload_n 2, 1) := by decide +kernel
theorem dX6_follow_33 : decode cX6_follow 33 = .ok (.invokevirtual 90, 3) := by decide +kernel
theorem dX6_follow_36 : decode cX6_follow 36 = .ok (.ifCond .eq 7, 3) := by decide +kernel
theorem dX6_follow_39 : decode cX6_follow 39 = .ok (.iload_n 2, 1) := by decide +kernel
theorem dX6_follow_40 : decode cX6_follow 40 = .ok (.goto 5, 3) := by decide +kernel
theorem dX6_follow_43 : decode cX6_follow 43 = .ok (.bipush (-10), 2) := by decide +kernel
theorem dX6_follow_45 : decode cX6_follow 45 = .ok (.ireturn, 1) := by decide +kernel
theorem dX6_clearChanges_0 : decode cX6_clearChanges 0 = .ok (.aload_n 0, 1) := by decide +kernel
theorem dX6_clearChanges_1 : decode cX6_clearChanges 1 = .ok (.getfield 12, 3) := by decide +kernel
theorem dX6_clearChanges_4 : decode cX6_clearChanges 4 = .ok (.getfield 112, 3) := by decide +kernel
theorem dX6_clearChanges_7 : decode cX6_clearChanges 7 = .ok (.invokestatic 116, 3) := by decide +kernel
theorem dX6_clearChanges_10 : decode cX6_clearChanges 10 = .ok (.istore_n 1, 1) := by decide +kernel
theorem dX6_clearChanges_11 : decode cX6_clearChanges 11 = .ok (.aload_n 0, 1) := by decide +kernel
theorem dX6_clearChanges_12 : decode cX6_clearChanges 12 = .ok (.getfield 12, 3) := by decide +kernel
theorem dX6_clearChanges_15 : decode cX6_clearChanges 15 = .ok (.lconst 0, 1) := by decide +kernel
theorem dX6_clearChanges_16 : decode cX6_clearChanges 16 = .ok (.putfield 112, 3) := by decide +kernel
theorem dX6_clearChanges_19 : decode cX6_clearChanges 19 = .ok (.iload_n 1, 1) := by decide +kernel
theorem dX6_clearChanges_20 : decode cX6_clearChanges 20 = .ok (.ireturn, 1) := by decide +kernel
theorem dX6_directlyChanged_0 : decode cX6_directlyChanged 0 = .ok (.iload_n 1, 1) := by decide +kernel
theorem dX6_directlyChanged_1 : decode cX6_directlyChanged 1 = .ok (.iconst 2, 1) := by decide +kernel
theorem dX6_directlyChanged_2 : decode cX6_directlyChanged 2 = .ok (.invokestatic 24, 3) := by decide +kernel
theorem dX6_directlyChanged_5 : decode cX6_directlyChanged 5 = .ok (.ifCond .eq 17, 3) := by decide +kernel
theorem dX6_directlyChanged_8 : decode cX6_directlyChanged 8 = .ok (.aload_n 0, 1) := by decide +kernel
theorem dX6_directlyChanged_9 : decode cX6_directlyChanged 9 = .ok (.getfield 12, 3) := by decide +kernel
theorem dX6_directlyChanged_12 : decode cX6_directlyChanged 12 = .ok (.getfield 112, 3) := by decide +kernel
theorem dX6_directlyChanged_15 : decode cX6_directlyChanged 15 = .ok (.iload_n 1, 1) := by decide +kernel
theorem dX6_directlyChanged_16 : decode cX6_directlyChanged 16 = .ok (.invokestatic 122, 3) := by decide +kernel
theorem dX6_directlyChanged_19 : decode cX6_directlyChanged 19 = .ok (.goto 5, 3) := by decide +kernel
theorem dX6_directlyChanged_22 : decode cX6_directlyChanged 22 = .ok (.bipush (-3), 2) := by decide +kernel
theorem dX6_directlyChanged_24 : decode cX6_directlyChanged 24 = .ok (.ireturn, 1) := by decide +kernel
theorem dX6_changed_0 : decode cX6_changed 0 = .ok (.iload_n 1, 1) := by decide +kernel
theorem dX6_changed_1 : decode cX6_changed 1 = .ok (.iconst 2, 1) := by decide +kernel
theorem dX6_changed_2 : decode cX6_changed 2 = .ok (.invokestatic 24, 3) := by decide +kernel
theorem dX6_changed_5 : decode cX6_changed 5 = .ok (.ifCond .eq 27, 3) := by decide +kernel
theorem dX6_changed_8 : decode cX6_changed 8 = .ok (.aload_n 0, 1) := by decide +kernel
theorem dX6_changed_9 : decode cX6_changed 9 = .ok (.getfield 12, 3) := by decide +kernel
theorem dX6_changed_12 : decode cX6_changed 12 = .ok (.getfield 20, 3) := by decide +kernel
theorem dX6_changed_15 : decode cX6_changed 15 = .ok (.aload_n 0, 1) := by decide +kernel
theorem dX6_changed_16 : decode cX6_changed 16 = .ok (.getfield 12, 3) := by decide +kernel
theorem dX6_changed_19 : decode cX6_changed 19 = .ok (.getfield 112, 3) := by decide +kernel
theorem dX6_changed_22 : decode cX6_changed 22 = .ok (.invokevirtual 126, 3) := by decide +kernel
theorem dX6_changed_25 : decode cX6_changed 25 = .ok (.iload_n 1, 1) := by decide +kernel
theorem dX6_changed_26 : decode cX6_changed 26 = .ok (.invokestatic 122, 3) := by decide +kernel
theorem dX6_changed_29 : decode cX6_changed 29 = .ok (.goto 5, 3) := by decide +kernel
theorem dX6_changed_32 : decode cX6_changed 32 = .ok (.bipush (-3), 2) := by decide +kernel
theorem dX6_changed_34 : decode cX6_changed 34 = .ok (.ireturn, 1) := by decide +kernel
theorem dX6_affectedTests_0 : decode cX6_affectedTests 0 = .ok (.aload_n 0, 1) := by decide +kernel
theorem dX6_affectedTests_1 : decode cX6_affectedTests 1 = .ok (.getfield 12, 3) := by decide +kernel
theorem dX6_affectedTests_4 : decode cX6_affectedTests 4 = .ok (.invokevirtual 130, 3) := by decide +kernel
theorem dX6_affectedTests_7 : decode cX6_affectedTests 7 = .ok (.ireturn, 1) := by decide +kernel
theorem dX6_chain_0 : decode cX6_chain 0 = .ok (.aload_n 0, 1) := by decide +kernel
theorem dX6_chain_1 : decode cX6_chain 1 = .ok (.getfield 12, 3) := by decide +kernel
theorem dX6_chain_4 : decode cX6_chain 4 = .ok (.getfield 20, 3) := by decide +kernel
theorem dX6_chain_7 : decode cX6_chain 7 = .ok (.iload_n 1, 1) := by decide +kernel
theorem dX6_chain_8 : decode cX6_chain 8 = .ok (.invokevirtual 42, 3) := by decide +kernel
theorem dX6_chain_11 : decode cX6_chain 11 = .ok (.ifCond .ne 5, 3) := by decide +kernel
theorem dX6_chain_14 : decode cX6_chain 14 = .ok (.iconst (-1), 1) := by decide +kernel
theorem dX6_chain_15 : decode cX6_chain 15 = .ok (.ireturn, 1) := by decide +kernel
theorem dX6_chain_16 : decode cX6_chain 16 = .ok (.iload_n 2, 1) := by decide +kernel
theorem dX6_chain_17 : decode cX6_chain 17 = .ok (.iconst 2, 1) := by decide +kernel
theorem dX6_chain_18 : decode cX6_chain 18 = .ok (.invokestatic 24, 3) := by decide +kernel
theorem dX6_chain_21 : decode cX6_chain 21 = .ok (.ifCond .ne 6, 3) := by decide +kernel
theorem dX6_chain_24 : decode cX6_chain 24 = .ok (.bipush (-3), 2) := by decide +kernel
theorem dX6_chain_26 : decode cX6_chain 26 = .ok (.ireturn, 1) := by decide +kernel
theorem dX6_chain_27 : decode cX6_chain 27 = .ok (.new 133, 3) := by decide +kernel
theorem dX6_chain_30 : decode cX6_chain 30 = .ok (.dup, 1) := by decide +kernel
theorem dX6_chain_31 : decode cX6_chain 31 = .ok (.aload_n 0, 1) := by decide +kernel
theorem dX6_chain_32 : decode cX6_chain 32 = .ok (.getfield 12, 3) := by decide +kernel
theorem dX6_chain_35 : decode cX6_chain 35 = .ok (.getfield 20, 3) := by decide +kernel
theorem dX6_chain_38 : decode cX6_chain 38 = .ok (.aload_n 0, 1) := by decide +kernel
theorem dX6_chain_39 : decode cX6_chain 39 = .ok (.getfield 12, 3) := by decide +kernel
theorem dX6_chain_42 : decode cX6_chain 42 = .ok (.getfield 112, 3) := by decide +kernel
theorem dX6_chain_45 : decode cX6_chain 45 = .ok (.iload_n 1, 1) := by decide +kernel
theorem dX6_chain_46 : decode cX6_chain 46 = .ok (.iload_n 2, 1) := by decide +kernel
theorem dX6_chain_47 : decode cX6_chain 47 = .ok (.invokestatic 135, 3) := by decide +kernel
theorem dX6_chain_50 : decode cX6_chain 50 = .ok (.invokespecial 138, 3) := by decide +kernel
theorem dX6_chain_53 : decode cX6_chain 53 = .ok (.astore 4, 2) := by decide +kernel
theorem dX6_chain_55 : decode cX6_chain 55 = .ok (.iload_n 3, 1) := by decide +kernel
theorem dX6_chain_56 : decode cX6_chain 56 = .ok (.iconst (-1), 1) := by decide +kernel
theorem dX6_chain_57 : decode cX6_chain 57 = .ok (.if_icmp .ne 17, 3) := by decide +kernel
theorem dX6_chain_60 : decode cX6_chain 60 = .ok (.aload 4, 2) := by decide +kernel
theorem dX6_chain_62 : decode cX6_chain 62 = .ok (.getfield 141, 3) := by decide +kernel
theorem dX6_chain_65 : decode cX6_chain 65 = .ok (.ifCond .le 9, 3) := by decide +kernel
theorem dX6_chain_68 : decode cX6_chain 68 = .ok (.aload 4, 2) := by decide +kernel
theorem dX6_chain_70 : decode cX6_chain 70 = .ok (.getfield 141, 3) := by decide +kernel
theorem dX6_chain_73 : decode cX6_chain 73 = .ok (.ireturn, 1) := by decide +kernel
theorem dX6_chain_74 : decode cX6_chain 74 = .ok (.iload_n 3, 1) := by decide +kernel
theorem dX6_chain_75 : decode cX6_chain 75 = .ok (.aload 4, 2) := by decide +kernel
theorem dX6_chain_77 : decode cX6_chain 77 = .ok (.getfield 141, 3) := by decide +kernel
theorem dX6_chain_80 : decode cX6_chain 80 = .ok (.invokestatic 24, 3) := by decide +kernel
theorem dX6_chain_83 : decode cX6_chain 83 = .ok (.ifCond .eq 13, 3) := by decide +kernel
theorem dX6_chain_86 : decode cX6_chain 86 = .ok (.aload 4, 2) := by decide +kernel
theorem dX6_chain_88 : decode cX6_chain 88 = .ok (.getfield 144, 3) := by decide +kernel
theorem dX6_chain_91 : decode cX6_chain 91 = .ok (.iload_n 3, 1) := by decide +kernel
theorem dX6_chain_92 : decode cX6_chain 92 = .ok (.iaload, 1) := by decide +kernel
theorem dX6_chain_93 : decode cX6_chain 93 = .ok (.goto 5, 3) := by decide +kernel
theorem dX6_chain_96 : decode cX6_chain 96 = .ok (.bipush (-10), 2) := by decide +kernel
theorem dX6_chain_98 : decode cX6_chain 98 = .ok (.ireturn, 1) := by decide +kernel
theorem dX6_impact_0 : decode cX6_impact 0 = .ok (.aload_n 0, 1) := by decide +kernel
theorem dX6_impact_1 : decode cX6_impact 1 = .ok (.getfield 12, 3) := by decide +kernel
theorem dX6_impact_4 : decode cX6_impact 4 = .ok (.getfield 20, 3) := by decide +kernel
theorem dX6_impact_7 : decode cX6_impact 7 = .ok (.iload_n 1, 1) := by decide +kernel
theorem dX6_impact_8 : decode cX6_impact 8 = .ok (.invokevirtual 42, 3) := by decide +kernel
theorem dX6_impact_11 : decode cX6_impact 11 = .ok (.ifCond .ne 5, 3) := by decide +kernel
theorem dX6_impact_14 : decode cX6_impact 14 = .ok (.iconst (-1), 1) := by decide +kernel
theorem dX6_impact_15 : decode cX6_impact 15 = .ok (.ireturn, 1) := by decide +kernel
theorem dX6_impact_16 : decode cX6_impact 16 = .ok (.iload_n 2, 1) := by decide +kernel
theorem dX6_impact_17 : decode cX6_impact 17 = .ok (.iconst 2, 1) := by decide +kernel
theorem dX6_impact_18 : decode cX6_impact 18 = .ok (.invokestatic 24, 3) := by decide +kernel
theorem dX6_impact_21 : decode cX6_impact 21 = .ok (.ifCond .ne 6, 3) := by decide +kernel
theorem dX6_impact_24 : decode cX6_impact 24 = .ok (.bipush (-3), 2) := by decide +kernel
theorem dX6_impact_26 : decode cX6_impact 26 = .ok (.ireturn, 1) := by decide +kernel
theorem dX6_impact_27 : decode cX6_impact 27 = .ok (.aload_n 0, 1) := by decide +kernel
theorem dX6_impact_28 : decode cX6_impact 28 = .ok (.getfield 12, 3) := by decide +kernel
theorem dX6_impact_31 : decode cX6_impact 31 = .ok (.getfield 20, 3) := by decide +kernel
theorem dX6_impact_34 : decode cX6_impact 34 = .ok (.iload_n 1, 1) := by decide +kernel
theorem dX6_impact_35 : decode cX6_impact 35 = .ok (.iload_n 2, 1) := by decide +kernel
theorem dX6_impact_36 : decode cX6_impact 36 = .ok (.invokestatic 135, 3) := by decide +kernel
theorem dX6_impact_39 : decode cX6_impact 39 = .ok (.invokevirtual 147, 3) := by decide +kernel
theorem dX6_impact_42 : decode cX6_impact 42 = .ok (.ireturn, 1) := by decide +kernel
theorem dX6_mostCritical_0 : decode cX6_mostCritical 0 = .ok (.iload_n 1, 1) := by decide +kernel
theorem dX6_mostCritical_1 : decode cX6_mostCritical 1 = .ok (.iconst 2, 1) := by decide +kernel
theorem dX6_mostCritical_2 : decode cX6_mostCritical 2 = .ok (.invokestatic 24, 3) := by decide +kernel
theorem dX6_mostCritical_5 : decode cX6_mostCritical 5 = .ok (.ifCond .ne 6, 3) := by decide +kernel
theorem dX6_mostCritical_8 : decode cX6_mostCritical 8 = .ok (.bipush (-3), 2) := by decide +kernel
theorem dX6_mostCritical_10 : decode cX6_mostCritical 10 = .ok (.ireturn, 1) := by decide +kernel
theorem dX6_mostCritical_11 : decode cX6_mostCritical 11 = .ok (.bipush (-10), 2) := by decide +kernel
theorem dX6_mostCritical_13 : decode cX6_mostCritical 13 = .ok (.istore_n 2, 1) := by decide +kernel
theorem dX6_mostCritical_14 : decode cX6_mostCritical 14 = .ok (.iconst 0, 1) := by decide +kernel
theorem dX6_mostCritical_15 : decode cX6_mostCritical 15 = .ok (.istore_n 3, 1) := by decide +kernel
theorem dX6_mostCritical_16 : decode cX6_mostCritical 16 = .ok (.iconst 0, 1) := by decide +kernel
theorem dX6_mostCritical_17 : decode cX6_mostCritical 17 = .ok (.istore 4, 2) := by decide +kernel
theorem dX6_mostCritical_19 : decode cX6_mostCritical 19 = .ok (.iload 4, 2) := by decide +kernel
theorem dX6_mostCritical_21 : decode cX6_mostCritical 21 = .ok (.aload_n 0, 1) := by decide +kernel
theorem dX6_mostCritical_22 : decode cX6_mostCritical 22 = .ok (.getfield 12, 3) := by decide +kernel
theorem dX6_mostCritical_25 : decode cX6_mostCritical 25 = .ok (.getfield 20, 3) := by decide +kernel
theorem dX6_mostCritical_28 : decode cX6_mostCritical 28 = .ok (.getfield 28, 3) := by decide +kernel
theorem dX6_mostCritical_31 : decode cX6_mostCritical 31 = .ok (.if_icmp .ge 39, 3) := by decide +kernel
theorem dX6_mostCritical_34 : decode cX6_mostCritical 34 = .ok (.aload_n 0, 1) := by decide +kernel
theorem dX6_mostCritical_35 : decode cX6_mostCritical 35 = .ok (.getfield 12, 3) := by decide +kernel
theorem dX6_mostCritical_38 : decode cX6_mostCritical 38 = .ok (.getfield 20, 3) := by decide +kernel
theorem dX6_mostCritical_41 : decode cX6_mostCritical 41 = .ok (.iload 4, 2) := by decide +kernel
theorem dX6_mostCritical_43 : decode cX6_mostCritical 43 = .ok (.iload_n 1, 1) := by decide +kernel
theorem dX6_mostCritical_44 : decode cX6_mostCritical 44 = .ok (.invokestatic 135, 3) := by decide +kernel
theorem dX6_mostCritical_47 : decode cX6_mostCritical 47 = .ok (.invokevirtual 147, 3) := by decide +kernel
theorem dX6_mostCritical_50 : decode cX6_mostCritical 50 = .ok (.istore 5, 2) := by decide +kernel
theorem dX6_mostCritical_52 : decode cX6_mostCritical 52 = .ok (.iload 5, 2) := by decide +kernel
theorem dX6_mostCritical_54 : decode cX6_mostCritical 54 = .ok (.iload_n 3, 1) := by decide +kernel
theorem dX6_mostCritical_55 : decode cX6_mostCritical 55 = .ok (.if_icmp .le 9, 3) := by decide +kernel
theorem dX6_mostCritical_58 : decode cX6_mostCritical 58 = .ok (.iload 4, 2) := by decide +kernel
theorem dX6_mostCritical_60 : decode cX6_mostCritical 60 = .ok (.istore_n 2, 1) := by decide +kernel
theorem dX6_mostCritical_61 : decode cX6_mostCritical 61 = .ok (.iload 5, 2) := by decide +kernel
theorem dX6_mostCritical_63 : decode cX6_mostCritical 63 = .ok (.istore_n 3, 1) := by decide +kernel
theorem dX6_mostCritical_64 : decode cX6_mostCritical 64 = .ok (.iinc 4 1, 3) := by decide +kernel
theorem dX6_mostCritical_67 : decode cX6_mostCritical 67 = .ok (.goto (-48), 3) := by decide +kernel
theorem dX6_mostCritical_70 : decode cX6_mostCritical 70 = .ok (.iload_n 2, 1) := by decide +kernel
theorem dX6_mostCritical_71 : decode cX6_mostCritical 71 = .ok (.ireturn, 1) := by decide +kernel
theorem dX6_rebuildOrder_0 : decode cX6_rebuildOrder 0 = .ok (.new 150, 3) := by decide +kernel
theorem dX6_rebuildOrder_3 : decode cX6_rebuildOrder 3 = .ok (.dup, 1) := by decide +kernel
theorem dX6_rebuildOrder_4 : decode cX6_rebuildOrder 4 = .ok (.aload_n 0, 1) := by decide +kernel
theorem dX6_rebuildOrder_5 : decode cX6_rebuildOrder 5 = .ok (.getfield 12, 3) := by decide +kernel
theorem dX6_rebuildOrder_8 : decode cX6_rebuildOrder 8 = .ok (.getfield 20, 3) := by decide +kernel
theorem dX6_rebuildOrder_11 : decode cX6_rebuildOrder 11 = .ok (.aload_n 0, 1) := by decide +kernel
theorem dX6_rebuildOrder_12 : decode cX6_rebuildOrder 12 = .ok (.getfield 12, 3) := by decide +kernel
theorem dX6_rebuildOrder_15 : decode cX6_rebuildOrder 15 = .ok (.invokevirtual 152, 3) := by decide +kernel
theorem dX6_rebuildOrder_18 : decode cX6_rebuildOrder 18 = .ok (.invokespecial 155, 3) := by decide +kernel
theorem dX6_rebuildOrder_21 : decode cX6_rebuildOrder 21 = .ok (.astore_n 2, 1) := by decide +kernel
theorem dX6_rebuildOrder_22 : decode cX6_rebuildOrder 22 = .ok (.iload_n 1, 1) := by decide +kernel
theorem dX6_rebuildOrder_23 : decode cX6_rebuildOrder 23 = .ok (.iconst (-1), 1) := by decide +kernel
theorem dX6_rebuildOrder_24 : decode cX6_rebuildOrder 24 = .ok (.if_icmp .ne 8, 3) := by decide +kernel
theorem dX6_rebuildOrder_27 : decode cX6_rebuildOrder 27 = .ok (.aload_n 2, 1) := by decide +kernel
theorem dX6_rebuildOrder_28 : decode cX6_rebuildOrder 28 = .ok (.getfield 158, 3) := by decide +kernel
theorem dX6_rebuildOrder_31 : decode cX6_rebuildOrder 31 = .ok (.ireturn, 1) := by decide +kernel
theorem dX6_rebuildOrder_32 : decode cX6_rebuildOrder 32 = .ok (.iload_n 1, 1) := by decide +kernel
theorem dX6_rebuildOrder_33 : decode cX6_rebuildOrder 33 = .ok (.aload_n 2, 1) := by decide +kernel
theorem dX6_rebuildOrder_34 : decode cX6_rebuildOrder 34 = .ok (.getfield 158, 3) := by decide +kernel
theorem dX6_rebuildOrder_37 : decode cX6_rebuildOrder 37 = .ok (.invokestatic 24, 3) := by decide +kernel
theorem dX6_rebuildOrder_40 : decode cX6_rebuildOrder 40 = .ok (.ifCond .eq 12, 3) := by decide +kernel
theorem dX6_rebuildOrder_43 : decode cX6_rebuildOrder 43 = .ok (.aload_n 2, 1) := by decide +kernel
theorem dX6_rebuildOrder_44 : decode cX6_rebuildOrder 44 = .ok (.getfield 159, 3) := by decide +kernel
theorem dX6_rebuildOrder_47 : decode cX6_rebuildOrder 47 = .ok (.iload_n 1, 1) := by decide +kernel
theorem dX6_rebuildOrder_48 : decode cX6_rebuildOrder 48 = .ok (.iaload, 1) := by decide +kernel
theorem dX6_rebuildOrder_49 : decode cX6_rebuildOrder 49 = .ok (.goto 5, 3) := by decide +kernel
theorem dX6_rebuildOrder_52 : decode cX6_rebuildOrder 52 = .ok (.bipush (-10), 2) := by decide +kernel
theorem dX6_rebuildOrder_54 : decode cX6_rebuildOrder 54 = .ok (.ireturn, 1) := by decide +kernel
theorem dX6_rebuildTime_0 : decode cX6_rebuildTime 0 = .ok (.new 150, 3) := by decide +kernel
theorem dX6_rebuildTime_3 : decode cX6_rebuildTime 3 = .ok (.dup, 1) := by decide +kernel
theorem dX6_rebuildTime_4 : decode cX6_rebuildTime 4 = .ok (.aload_n 0, 1) := by decide +kernel
theorem dX6_rebuildTime_5 : decode cX6_rebuildTime 5 = .ok (.getfield 12, 3) := by decide +kernel
theorem dX6_rebuildTime_8 : decode cX6_rebuildTime 8 = .ok (.getfield 20, 3) := by decide +kernel
theorem dX6_rebuildTime_11 : decode cX6_rebuildTime 11 = .ok (.aload_n 0, 1) := by decide +kernel
theorem dX6_rebuildTime_12 : decode cX6_rebuildTime 12 = .ok (.getfield 12, 3) := by decide +kernel
theorem dX6_rebuildTime_15 : decode cX6_rebuildTime 15 = .ok (.invokevirtual 152, 3) := by decide +kernel
theorem dX6_rebuildTime_18 : decode cX6_rebuildTime 18 = .ok (.invokespecial 155, 3) := by decide +kernel
theorem dX6_rebuildTime_21 : decode cX6_rebuildTime 21 = .ok (.invokevirtual 162, 3) := by decide +kernel
theorem dX6_rebuildTime_24 : decode cX6_rebuildTime 24 = .ok (.ireturn, 1) := by decide +kernel
theorem dX6_shardOf_0 : decode cX6_shardOf 0 = .ok (.aload_n 0, 1) := by decide +kernel
theorem dX6_shardOf_1 : decode cX6_shardOf 1 = .ok (.getfield 12, 3) := by decide +kernel
theorem dX6_shardOf_4 : decode cX6_shardOf 4 = .ok (.getfield 20, 3) := by decide +kernel
theorem dX6_shardOf_7 : decode cX6_shardOf 7 = .ok (.iload_n 1, 1) := by decide +kernel
theorem dX6_shardOf_8 : decode cX6_shardOf 8 = .ok (.invokevirtual 42, 3) := by decide +kernel
theorem dX6_shardOf_11 : decode cX6_shardOf 11 = .ok (.ifCond .ne 5, 3) := by decide +kernel
theorem dX6_shardOf_14 : decode cX6_shardOf 14 = .ok (.iconst (-1), 1) := by decide +kernel
theorem dX6_shardOf_15 : decode cX6_shardOf 15 = .ok (.ireturn, 1) := by decide +kernel
theorem dX6_shardOf_16 : decode cX6_shardOf 16 = .ok (.iload_n 2, 1) := by decide +kernel
theorem dX6_shardOf_17 : decode cX6_shardOf 17 = .ok (.invokestatic 165, 3) := by decide +kernel
theorem dX6_shardOf_20 : decode cX6_shardOf 20 = .ok (.ifCond .ne 6, 3) := by decide +kernel
theorem dX6_shardOf_23 : decode cX6_shardOf 23 = .ok (.bipush (-3), 2) := by decide +kernel
theorem dX6_shardOf_25 : decode cX6_shardOf 25 = .ok (.ireturn, 1) := by decide +kernel
theorem dX6_shardOf_26 : decode cX6_shardOf 26 = .ok (.aload_n 0, 1) := by decide +kernel
theorem dX6_shardOf_27 : decode cX6_shardOf 27 = .ok (.getfield 12, 3) := by decide +kernel
theorem dX6_shardOf_30 : decode cX6_shardOf 30 = .ok (.invokevirtual 130, 3) := by decide +kernel
theorem dX6_shardOf_33 : decode cX6_shardOf 33 = .ok (.istore_n 3, 1) := by decide +kernel
theorem dX6_shardOf_34 : decode cX6_shardOf 34 = .ok (.iload_n 3, 1) := by decide +kernel
theorem dX6_shardOf_35 : decode cX6_shardOf 35 = .ok (.iload_n 1, 1) := by decide +kernel
theorem dX6_shardOf_36 : decode cX6_shardOf 36 = .ok (.invokestatic 60, 3) := by decide +kernel
theorem dX6_shardOf_39 : decode cX6_shardOf 39 = .ok (.ifCond .eq 27, 3) := by decide +kernel
theorem dX6_shardOf_42 : decode cX6_shardOf 42 = .ok (.new 168, 3) := by decide +kernel
theorem dX6_shardOf_45 : decode cX6_shardOf 45 = .ok (.dup, 1) := by decide +kernel
theorem dX6_shardOf_46 : decode cX6_shardOf 46 = .ok (.aload_n 0, 1) := by decide +kernel
theorem dX6_shardOf_47 : decode cX6_shardOf 47 = .ok (.getfield 12, 3) := by decide +kernel
theorem dX6_shardOf_50 : decode cX6_shardOf 50 = .ok (.getfield 20, 3) := by decide +kernel
theorem dX6_shardOf_53 : decode cX6_shardOf 53 = .ok (.iload_n 3, 1) := by decide +kernel
theorem dX6_shardOf_54 : decode cX6_shardOf 54 = .ok (.iload_n 2, 1) := by decide +kernel
theorem dX6_shardOf_55 : decode cX6_shardOf 55 = .ok (.invokespecial 170, 3) := by decide +kernel
theorem dX6_shardOf_58 : decode cX6_shardOf 58 = .ok (.getfield 173, 3) := by decide +kernel
theorem dX6_shardOf_61 : decode cX6_shardOf 61 = .ok (.iload_n 1, 1) := by decide +kernel
theorem dX6_shardOf_62 : decode cX6_shardOf 62 = .ok (.iaload, 1) := by decide +kernel
theorem dX6_shardOf_63 : decode cX6_shardOf 63 = .ok (.goto 5, 3) := by decide +kernel
theorem dX6_shardOf_66 : decode cX6_shardOf 66 = .ok (.bipush (-10), 2) := by decide +kernel
theorem dX6_shardOf_68 : decode cX6_shardOf 68 = .ok (.ireturn, 1) := by decide +kernel
theorem dX6_shardLoad_0 : decode cX6_shardLoad 0 = .ok (.iload_n 1, 1) := by decide +kernel
theorem dX6_shardLoad_1 : decode cX6_shardLoad 1 = .ok (.invokestatic 165, 3) := by decide +kernel
theorem dX6_shardLoad_4 : decode cX6_shardLoad 4 = .ok (.ifCond .eq 11, 3) := by decide +kernel
theorem dX6_shardLoad_7 : decode cX6_shardLoad 7 = .ok (.iload_n 2, 1) := by decide +kernel
theorem dX6_shardLoad_8 : decode cX6_shardLoad 8 = .ok (.iload_n 1, 1) := by decide +kernel
theorem dX6_shardLoad_9 : decode cX6_shardLoad 9 = .ok (.invokestatic 24, 3) := by decide +kernel
theorem dX6_shardLoad_12 : decode cX6_shardLoad 12 = .ok (.ifCond .ne 6, 3) := by decide +kernel
theorem dX6_shardLoad_15 : decode cX6_shardLoad 15 = .ok (.bipush (-3), 2) := by decide +kernel
theorem dX6_shardLoad_17 : decode cX6_shardLoad 17 = .ok (.ireturn, 1) := by decide +kernel
theorem dX6_shardLoad_18 : decode cX6_shardLoad 18 = .ok (.new 168, 3) := by decide +kernel
theorem dX6_shardLoad_21 : decode cX6_shardLoad 21 = .ok (.dup, 1) := by decide +kernel
theorem dX6_shardLoad_22 : decode cX6_shardLoad 22 = .ok (.aload_n 0, 1) := by decide +kernel
theorem dX6_shardLoad_23 : decode cX6_shardLoad 23 = .ok (.getfield 12, 3) := by decide +kernel
theorem dX6_shardLoad_26 : decode cX6_shardLoad 26 = .ok (.getfield 20, 3) := by decide +kernel
theorem dX6_shardLoad_29 : decode cX6_shardLoad 29 = .ok (.aload_n 0, 1) := by decide +kernel
theorem dX6_shardLoad_30 : decode cX6_shardLoad 30 = .ok (.getfield 12, 3) := by decide +kernel
theorem dX6_shardLoad_33 : decode cX6_shardLoad 33 = .ok (.invokevirtual 130, 3) := by decide +kernel
theorem dX6_shardLoad_36 : decode cX6_shardLoad 36 = .ok (.iload_n 1, 1) := by decide +kernel
theorem dX6_shardLoad_37 : decode cX6_shardLoad 37 = .ok (.invokespecial 170, 3) := by decide +kernel
theorem dX6_shardLoad_40 : decode cX6_shardLoad 40 = .ok (.getfield 176, 3) := by decide +kernel
theorem dX6_shardLoad_43 : decode cX6_shardLoad 43 = .ok (.iload_n 2, 1) := by decide +kernel
theorem dX6_shardLoad_44 : decode cX6_shardLoad 44 = .ok (.iaload, 1) := by decide +kernel
theorem dX6_shardLoad_45 : decode cX6_shardLoad 45 = .ok (.ireturn, 1) := by decide +kernel
theorem dX6_bestGreatestLoad_0 : decode cX6_bestGreatestLoad 0 = .ok (.iload_n 1, 1) := by decide +kernel
theorem dX6_bestGreatestLoad_1 : decode cX6_bestGreatestLoad 1 = .ok (.invokestatic 165, 3) := by decide +kernel
theorem dX6_bestGreatestLoad_4 : decode cX6_bestGreatestLoad 4 = .ok (.ifCond .ne 6, 3) := by decide +kernel
theorem dX6_bestGreatestLoad_7 : decode cX6_bestGreatestLoad 7 = .ok (.bipush (-3), 2) := by decide +kernel
theorem dX6_bestGreatestLoad_9 : decode cX6_bestGreatestLoad 9 = .ok (.ireturn, 1) := by decide +kernel
theorem dX6_bestGreatestLoad_10 : decode cX6_bestGreatestLoad 10 = .ok (.new 168, 3) := by decide +kernel
theorem dX6_bestGreatestLoad_13 : decode cX6_bestGreatestLoad 13 = .ok (.dup, 1) := by decide +kernel
theorem dX6_bestGreatestLoad_14 : decode cX6_bestGreatestLoad 14 = .ok (.aload_n 0, 1) := by decide +kernel
theorem dX6_bestGreatestLoad_15 : decode cX6_bestGreatestLoad 15 = .ok (.getfield 12, 3) := by decide +kernel
theorem dX6_bestGreatestLoad_18 : decode cX6_bestGreatestLoad 18 = .ok (.getfield 20, 3) := by decide +kernel
theorem dX6_bestGreatestLoad_21 : decode cX6_bestGreatestLoad 21 = .ok (.aload_n 0, 1) := by decide +kernel
theorem dX6_bestGreatestLoad_22 : decode cX6_bestGreatestLoad 22 = .ok (.getfield 12, 3) := by decide +kernel
theorem dX6_bestGreatestLoad_25 : decode cX6_bestGreatestLoad 25 = .ok (.invokevirtual 130, 3) := by decide +kernel
theorem dX6_bestGreatestLoad_28 : decode cX6_bestGreatestLoad 28 = .ok (.iload_n 1, 1) := by decide +kernel
theorem dX6_bestGreatestLoad_29 : decode cX6_bestGreatestLoad 29 = .ok (.invokespecial 170, 3) := by decide +kernel
theorem dX6_bestGreatestLoad_32 : decode cX6_bestGreatestLoad 32 = .ok (.invokevirtual 179, 3) := by decide +kernel
theorem dX6_bestGreatestLoad_35 : decode cX6_bestGreatestLoad 35 = .ok (.ireturn, 1) := by decide +kernel
theorem dX6_save_0 : decode cX6_save 0 = .ok (.iload_n 1, 1) := by decide +kernel
theorem dX6_save_1 : decode cX6_save 1 = .ok (.iconst 2, 1) := by decide +kernel
theorem dX6_save_2 : decode cX6_save 2 = .ok (.invokestatic 24, 3) := by decide +kernel
theorem dX6_save_5 : decode cX6_save 5 = .ok (.ifCond .ne 6, 3) := by decide +kernel
theorem dX6_save_8 : decode cX6_save 8 = .ok (.bipush (-3), 2) := by decide +kernel
theorem dX6_save_10 : decode cX6_save 10 = .ok (.ireturn, 1) := by decide +kernel
theorem dX6_save_11 : decode cX6_save 11 = .ok (.aload_n 0, 1) := by decide +kernel
theorem dX6_save_12 : decode cX6_save 12 = .ok (.getfield 16, 3) := by decide +kernel
theorem dX6_save_15 : decode cX6_save 15 = .ok (.iload_n 1, 1) := by decide +kernel
theorem dX6_save_16 : decode cX6_save 16 = .ok (.aaload, 1) := by decide +kernel
theorem dX6_save_17 : decode cX6_save 17 = .ok (.astore_n 2, 1) := by decide +kernel
theorem dX6_save_18 : decode cX6_save 18 = .ok (.aload_n 2, 1) := by decide +kernel
theorem dX6_save_19 : decode cX6_save 19 = .ok (.ifnonnull 18, 3) := by decide +kernel
theorem dX6_save_22 : decode cX6_save 22 = .ok (.new 9, 3) := by decide +kernel
theorem dX6_save_25 : decode cX6_save 25 = .ok (.dup, 1) := by decide +kernel
theorem dX6_save_26 : decode cX6_save 26 = .ok (.invokespecial 11, 3) := by decide +kernel
theorem dX6_save_29 : decode cX6_save 29 = .ok (.astore_n 2, 1) := by decide +kernel
theorem dX6_save_30 : decode cX6_save 30 = .ok (.aload_n 0, 1) := by decide +kernel
theorem dX6_save_31 : decode cX6_save 31 = .ok (.getfield 16, 3) := by decide +kernel
theorem dX6_save_34 : decode cX6_save 34 = .ok (.iload_n 1, 1) := by decide +kernel
theorem dX6_save_35 : decode cX6_save 35 = .ok (.aload_n 2, 1) := by decide +kernel
theorem dX6_save_36 : decode cX6_save 36 = .ok (.aastore, 1) := by decide +kernel
theorem dX6_save_37 : decode cX6_save 37 = .ok (.aload_n 2, 1) := by decide +kernel
theorem dX6_save_38 : decode cX6_save 38 = .ok (.aload_n 0, 1) := by decide +kernel
theorem dX6_save_39 : decode cX6_save 39 = .ok (.getfield 12, 3) := by decide +kernel
theorem dX6_save_42 : decode cX6_save 42 = .ok (.invokevirtual 182, 3) := by decide +kernel
theorem dX6_save_45 : decode cX6_save 45 = .ok (.aload_n 0, 1) := by decide +kernel
theorem dX6_save_46 : decode cX6_save 46 = .ok (.getfield 12, 3) := by decide +kernel
theorem dX6_save_49 : decode cX6_save 49 = .ok (.getfield 20, 3) := by decide +kernel
theorem dX6_save_52 : decode cX6_save 52 = .ok (.getfield 28, 3) := by decide +kernel
theorem dX6_save_55 : decode cX6_save 55 = .ok (.ireturn, 1) := by decide +kernel
theorem dX6_restore_0 : decode cX6_restore 0 = .ok (.iload_n 1, 1) := by decide +kernel
theorem dX6_restore_1 : decode cX6_restore 1 = .ok (.iconst 2, 1) := by decide +kernel
theorem dX6_restore_2 : decode cX6_restore 2 = .ok (.invokestatic 24, 3) := by decide +kernel
theorem dX6_restore_5 : decode cX6_restore 5 = .ok (.ifCond .ne 6, 3) := by decide +kernel
theorem dX6_restore_8 : decode cX6_restore 8 = .ok (.bipush (-3), 2) := by decide +kernel
theorem dX6_restore_10 : decode cX6_restore 10 = .ok (.ireturn, 1) := by decide +kernel
theorem dX6_restore_11 : decode cX6_restore 11 = .ok (.aload_n 0, 1) := by decide +kernel
theorem dX6_restore_12 : decode cX6_restore 12 = .ok (.getfield 16, 3) := by decide +kernel
theorem dX6_restore_15 : decode cX6_restore 15 = .ok (.iload_n 1, 1) := by decide +kernel
theorem dX6_restore_16 : decode cX6_restore 16 = .ok (.aaload, 1) := by decide +kernel
theorem dX6_restore_17 : decode cX6_restore 17 = .ok (.astore_n 2, 1) := by decide +kernel
theorem dX6_restore_18 : decode cX6_restore 18 = .ok (.aload_n 2, 1) := by decide +kernel
theorem dX6_restore_19 : decode cX6_restore 19 = .ok (.ifnonnull 6, 3) := by decide +kernel
theorem dX6_restore_22 : decode cX6_restore 22 = .ok (.bipush (-11), 2) := by decide +kernel
theorem dX6_restore_24 : decode cX6_restore 24 = .ok (.ireturn, 1) := by decide +kernel
theorem dX6_restore_25 : decode cX6_restore 25 = .ok (.aload_n 0, 1) := by decide +kernel
theorem dX6_restore_26 : decode cX6_restore 26 = .ok (.getfield 12, 3) := by decide +kernel
theorem dX6_restore_29 : decode cX6_restore 29 = .ok (.aload_n 2, 1) := by decide +kernel
theorem dX6_restore_30 : decode cX6_restore 30 = .ok (.invokevirtual 182, 3) := by decide +kernel
theorem dX6_restore_33 : decode cX6_restore 33 = .ok (.aload_n 0, 1) := by decide +kernel
theorem dX6_restore_34 : decode cX6_restore 34 = .ok (.getfield 12, 3) := by decide +kernel
theorem dX6_restore_37 : decode cX6_restore 37 = .ok (.getfield 20, 3) := by decide +kernel
theorem dX6_restore_40 : decode cX6_restore 40 = .ok (.getfield 28, 3) := by decide +kernel
theorem dX6_restore_43 : decode cX6_restore 43 = .ok (.ireturn, 1) := by decide +kernel
theorem dX6_inRange_0 : decode cX6_inRange 0 = .ok (.iload_n 0, 1) := by decide +kernel
theorem dX6_inRange_1 : decode cX6_inRange 1 = .ok (.ifCond .lt 12, 3) := by decide +kernel
theorem dX6_inRange_4 : decode cX6_inRange 4 = .ok (.iload_n 0, 1) := by decide +kernel
theorem dX6_inRange_5 : decode cX6_inRange 5 = .ok (.iload_n 1, 1) := by decide +kernel
theorem dX6_inRange_6 : decode cX6_inRange 6 = .ok (.if_icmp .ge 7, 3) := by decide +kernel
theorem dX6_inRange_9 : decode cX6_inRange 9 = .ok (.iconst 1, 1) := by decide +kernel
theorem dX6_inRange_10 : decode cX6_inRange 10 = .ok (.goto 4, 3) := by decide +kernel
theorem dX6_inRange_13 : decode cX6_inRange 13 = .ok (.iconst 0, 1) := by decide +kernel
theorem dX6_inRange_14 : decode cX6_inRange 14 = .ok (.ireturn, 1) := by decide +kernel
theorem dX6_isShardCount_0 : decode cX6_isShardCount 0 = .ok (.iload_n 0, 1) := by decide +kernel
theorem dX6_isShardCount_1 : decode cX6_isShardCount 1 = .ok (.iconst 1, 1) := by decide +kernel
theorem dX6_isShardCount_2 : decode cX6_isShardCount 2 = .ok (.if_icmp .lt 12, 3) := by decide +kernel
theorem dX6_isShardCount_5 : decode cX6_isShardCount 5 = .ok (.iload_n 0, 1) := by decide +kernel
theorem dX6_isShardCount_6 : decode cX6_isShardCount 6 = .ok (.iconst 4, 1) := by decide +kernel
theorem dX6_isShardCount_7 : decode cX6_isShardCount 7 = .ok (.if_icmp .gt 7, 3) := by decide +kernel
theorem dX6_isShardCount_10 : decode cX6_isShardCount 10 = .ok (.iconst 1, 1) := by decide +kernel
theorem dX6_isShardCount_11 : decode cX6_isShardCount 11 = .ok (.goto 4, 3) := by decide +kernel
theorem dX6_isShardCount_14 : decode cX6_isShardCount 14 = .ok (.iconst 0, 1) := by decide +kernel
theorem dX6_isShardCount_15 : decode cX6_isShardCount 15 = .ok (.ireturn, 1) := by decide +kernel
theorem dX6_setOf_0 : decode cX6_setOf 0 = .ok (.iconst 1, 1) := by decide +kernel
theorem dX6_setOf_1 : decode cX6_setOf 1 = .ok (.iload_n 0, 1) := by decide +kernel
theorem dX6_setOf_2 : decode cX6_setOf 2 = .ok (.ishl, 1) := by decide +kernel
theorem dX6_setOf_3 : decode cX6_setOf 3 = .ok (.ireturn, 1) := by decide +kernel
theorem dX6_contains_0 : decode cX6_contains 0 = .ok (.iload_n 0, 1) := by decide +kernel
theorem dX6_contains_1 : decode cX6_contains 1 = .ok (.iload_n 1, 1) := by decide +kernel
theorem dX6_contains_2 : decode cX6_contains 2 = .ok (.iushr, 1) := by decide +kernel
theorem dX6_contains_3 : decode cX6_contains 3 = .ok (.iconst 1, 1) := by decide +kernel
theorem dX6_contains_4 : decode cX6_contains 4 = .ok (.iand, 1) := by decide +kernel
theorem dX6_contains_5 : decode cX6_contains 5 = .ok (.ifCond .eq 7, 3) := by decide +kernel
theorem dX6_contains_8 : decode cX6_contains 8 = .ok (.iconst 1, 1) := by decide +kernel
theorem dX6_contains_9 : decode cX6_contains 9 = .ok (.goto 4, 3) := by decide +kernel
theorem dX6_contains_12 : decode cX6_contains 12 = .ok (.iconst 0, 1) := by decide +kernel
theorem dX6_contains_13 : decode cX6_contains 13 = .ok (.ireturn, 1) := by decide +kernel
theorem dX6_smallestTarget_0 : decode cX6_smallestTarget 0 = .ok (.iconst 0, 1) := by decide +kernel
theorem dX6_smallestTarget_1 : decode cX6_smallestTarget 1 = .ok (.istore_n 1, 1) := by decide +kernel
theorem dX6_smallestTarget_2 : decode cX6_smallestTarget 2 = .ok (.iload_n 1, 1) := by decide +kernel
theorem dX6_smallestTarget_3 : decode cX6_smallestTarget 3 = .ok (.bipush 20, 2) := by decide +kernel
theorem dX6_smallestTarget_5 : decode cX6_smallestTarget 5 = .ok (.if_icmp .ge 19, 3) := by decide +kernel
theorem dX6_smallestTarget_8 : decode cX6_smallestTarget 8 = .ok (.iload_n 0, 1) := by decide +kernel
theorem dX6_smallestTarget_9 : decode cX6_smallestTarget 9 = .ok (.iload_n 1, 1) := by decide +kernel
theorem dX6_smallestTarget_10 : decode cX6_smallestTarget 10 = .ok (.invokestatic 60, 3) := by decide +kernel
theorem dX6_smallestTarget_13 : decode cX6_smallestTarget 13 = .ok (.ifCond .eq 5, 3) := by decide +kernel
theorem dX6_smallestTarget_16 : decode cX6_smallestTarget 16 = .ok (.iload_n 1, 1) := by decide +kernel
theorem dX6_smallestTarget_17 : decode cX6_smallestTarget 17 = .ok (.ireturn, 1) := by decide +kernel
theorem dX6_smallestTarget_18 : decode cX6_smallestTarget 18 = .ok (.iinc 1 1, 3) := by decide +kernel
theorem dX6_smallestTarget_21 : decode cX6_smallestTarget 21 = .ok (.goto (-19), 3) := by decide +kernel
theorem dX6_smallestTarget_24 : decode cX6_smallestTarget 24 = .ok (.bipush (-10), 2) := by decide +kernel
theorem dX6_smallestTarget_26 : decode cX6_smallestTarget 26 = .ok (.ireturn, 1) := by decide +kernel
theorem dX6_pairOf_0 : decode cX6_pairOf 0 = .ok (.iconst 2, 1) := by decide +kernel
theorem dX6_pairOf_1 : decode cX6_pairOf 1 = .ok (.iload_n 0, 1) := by decide +kernel
theorem dX6_pairOf_2 : decode cX6_pairOf 2 = .ok (.imul, 1) := by decide +kernel
theorem dX6_pairOf_3 : decode cX6_pairOf 3 = .ok (.iload_n 1, 1) := by decide +kernel
theorem dX6_pairOf_4 : decode cX6_pairOf 4 = .ok (.iadd, 1) := by decide +kernel
theorem dX6_pairOf_5 : decode cX6_pairOf 5 = .ok (.ireturn, 1) := by decide +kernel
theorem dX6_pairsWith_0 : decode cX6_pairsWith 0 = .ok (.iload_n 0, 1) := by decide +kernel
theorem dX6_pairsWith_1 : decode cX6_pairsWith 1 = .ok (.i2l, 1) := by decide +kernel
theorem dX6_pairsWith_2 : decode cX6_pairsWith 2 = .ok (.iload_n 1, 1) := by decide +kernel
theorem dX6_pairsWith_3 : decode cX6_pairsWith 3 = .ok (.bipush 32, 2) := by decide +kernel
theorem dX6_pairsWith_5 : decode cX6_pairsWith 5 = .ok (.imul, 1) := by decide +kernel
theorem dX6_pairsWith_6 : decode cX6_pairsWith 6 = .ok (.lshl, 1) := by decide +kernel
theorem dX6_pairsWith_7 : decode cX6_pairsWith 7 = .ok (.lreturn, 1) := by decide +kernel
theorem dX6_targetsWith_0 : decode cX6_targetsWith 0 = .ok (.lload_n 0, 1) := by decide +kernel
theorem dX6_targetsWith_1 : decode cX6_targetsWith 1 = .ok (.iload_n 2, 1) := by decide +kernel
theorem dX6_targetsWith_2 : decode cX6_targetsWith 2 = .ok (.bipush 32, 2) := by decide +kernel
theorem dX6_targetsWith_4 : decode cX6_targetsWith 4 = .ok (.imul, 1) := by decide +kernel
theorem dX6_targetsWith_5 : decode cX6_targetsWith 5 = .ok (.lushr, 1) := by decide +kernel
theorem dX6_targetsWith_6 : decode cX6_targetsWith 6 = .ok (.l2i, 1) := by decide +kernel
theorem dX6_targetsWith_7 : decode cX6_targetsWith 7 = .ok (.ireturn, 1) := by decide +kernel
theorem dX6_setOfPair_0 : decode cX6_setOfPair 0 = .ok (.lconst 1, 1) := by decide +kernel
theorem dX6_setOfPair_1 : decode cX6_setOfPair 1 = .ok (.iload_n 0, 1) := by decide +kernel
theorem dX6_setOfPair_2 : decode cX6_setOfPair 2 = .ok (.iconst 2, 1) := by decide +kernel
theorem dX6_setOfPair_3 : decode cX6_setOfPair 3 = .ok (.irem, 1) := by decide +kernel
theorem dX6_setOfPair_4 : decode cX6_setOfPair 4 = .ok (.bipush 32, 2) := by decide +kernel
theorem dX6_setOfPair_6 : decode cX6_setOfPair 6 = .ok (.imul, 1) := by decide +kernel
theorem dX6_setOfPair_7 : decode cX6_setOfPair 7 = .ok (.iload_n 0, 1) := by decide +kernel
theorem dX6_setOfPair_8 : decode cX6_setOfPair 8 = .ok (.iconst 2, 1) := by decide +kernel
theorem dX6_setOfPair_9 : decode cX6_setOfPair 9 = .ok (.idiv, 1) := by decide +kernel
theorem dX6_setOfPair_10 : decode cX6_setOfPair 10 = .ok (.iadd, 1) := by decide +kernel
theorem dX6_setOfPair_11 : decode cX6_setOfPair 11 = .ok (.lshl, 1) := by decide +kernel
theorem dX6_setOfPair_12 : decode cX6_setOfPair 12 = .ok (.lreturn, 1) := by decide +kernel
theorem dX6_containsPair_0 : decode cX6_containsPair 0 = .ok (.lload_n 0, 1) := by decide +kernel
theorem dX6_containsPair_1 : decode cX6_containsPair 1 = .ok (.iload_n 2, 1) := by decide +kernel
theorem dX6_containsPair_2 : decode cX6_containsPair 2 = .ok (.invokestatic 186, 3) := by decide +kernel
theorem dX6_containsPair_5 : decode cX6_containsPair 5 = .ok (.land, 1) := by decide +kernel
theorem dX6_containsPair_6 : decode cX6_containsPair 6 = .ok (.lconst 0, 1) := by decide +kernel
theorem dX6_containsPair_7 : decode cX6_containsPair 7 = .ok (.lcmp, 1) := by decide +kernel
theorem dX6_containsPair_8 : decode cX6_containsPair 8 = .ok (.ifCond .eq 7, 3) := by decide +kernel
theorem dX6_containsPair_11 : decode cX6_containsPair 11 = .ok (.iconst 1, 1) := by decide +kernel
theorem dX6_containsPair_12 : decode cX6_containsPair 12 = .ok (.goto 4, 3) := by decide +kernel
theorem dX6_containsPair_15 : decode cX6_containsPair 15 = .ok (.iconst 0, 1) := by decide +kernel
theorem dX6_containsPair_16 : decode cX6_containsPair 16 = .ok (.ireturn, 1) := by decide +kernel
theorem dX6_smallestPair_0 : decode cX6_smallestPair 0 = .ok (.iconst 0, 1) := by decide +kernel
theorem dX6_smallestPair_1 : decode cX6_smallestPair 1 = .ok (.istore_n 2, 1) := by decide +kernel
theorem dX6_smallestPair_2 : decode cX6_smallestPair 2 = .ok (.iload_n 2, 1) := by decide +kernel
theorem dX6_smallestPair_3 : decode cX6_smallestPair 3 = .ok (.bipush 40, 2) := by decide +kernel
theorem dX6_smallestPair_5 : decode cX6_smallestPair 5 = .ok (.if_icmp .ge 19, 3) := by decide +kernel
theorem dX6_smallestPair_8 : decode cX6_smallestPair 8 = .ok (.lload_n 0, 1) := by decide +kernel
theorem dX6_smallestPair_9 : decode cX6_smallestPair 9 = .ok (.iload_n 2, 1) := by decide +kernel
theorem dX6_smallestPair_10 : decode cX6_smallestPair 10 = .ok (.invokestatic 190, 3) := by decide +kernel
theorem dX6_smallestPair_13 : decode cX6_smallestPair 13 = .ok (.ifCond .eq 5, 3) := by decide +kernel
theorem dX6_smallestPair_16 : decode cX6_smallestPair 16 = .ok (.iload_n 2, 1) := by decide +kernel
theorem dX6_smallestPair_17 : decode cX6_smallestPair 17 = .ok (.ireturn, 1) := by decide +kernel
theorem dX6_smallestPair_18 : decode cX6_smallestPair 18 = .ok (.iinc 2 1, 3) := by decide +kernel
theorem dX6_smallestPair_21 : decode cX6_smallestPair 21 = .ok (.goto (-19), 3) := by decide +kernel
theorem dX6_smallestPair_24 : decode cX6_smallestPair 24 = .ok (.bipush (-10), 2) := by decide +kernel
theorem dX6_smallestPair_26 : decode cX6_smallestPair 26 = .ok (.ireturn, 1) := by decide +kernel
