theorem dX7_directlyChanged_0 : decode cX7_directlyChanged 0 = .ok (.iload_n 1, 1) := by decide +kernel
theorem dX7_directlyChanged_1 : decode cX7_directlyChanged 1 = .ok (.invokestatic 87, 3) := by decide +kernel
theorem dX7_directlyChanged_4 : decode cX7_directlyChanged 4 = .ok (.ifCond .ne 6, 3) := by decide +kernel
theorem dX7_directlyChanged_7 : decode cX7_directlyChanged 7 = .ok (.bipush (-3), 2) := by decide +kernel
theorem dX7_directlyChanged_9 : decode cX7_directlyChanged 9 = .ok (.ireturn, 1) := by decide +kernel
theorem dX7_directlyChanged_10 : decode cX7_directlyChanged 10 = .ok (.iconst 0, 1) := by decide +kernel
theorem dX7_directlyChanged_11 : decode cX7_directlyChanged 11 = .ok (.istore_n 2, 1) := by decide +kernel
theorem dX7_directlyChanged_12 : decode cX7_directlyChanged 12 = .ok (.iconst 0, 1) := by decide +kernel
theorem dX7_directlyChanged_13 : decode cX7_directlyChanged 13 = .ok (.istore_n 3, 1) := by decide +kernel
theorem dX7_directlyChanged_14 : decode cX7_directlyChanged 14 = .ok (.iload_n 3, 1) := by decide +kernel
theorem dX7_directlyChanged_15 : decode cX7_directlyChanged 15 = .ok (.aload_n 0, 1) := by decide +kernel
theorem dX7_directlyChanged_16 : decode cX7_directlyChanged 16 = .ok (.getfield 7, 3) := by decide +kernel
theorem dX7_directlyChanged_19 : decode cX7_directlyChanged 19 = .ok (.iconst 0, 1) := by decide +kernel
theorem dX7_directlyChanged_20 : decode cX7_directlyChanged 20 = .ok (.iaload, 1) := by decide +kernel
theorem dX7_directlyChanged_21 : decode cX7_directlyChanged 21 = .ok (.if_icmp .ge 37, 3) := by decide +kernel
theorem dX7_directlyChanged_24 : decode cX7_directlyChanged 24 = .ok (.iload_n 2, 1) := by decide +kernel
theorem dX7_directlyChanged_25 : decode cX7_directlyChanged 25 = .ok (.aload_n 0, 1) := by decide +kernel
theorem dX7_directlyChanged_26 : decode cX7_directlyChanged 26 = .ok (.getfield 7, 3) := by decide +kernel
theorem dX7_directlyChanged_29 : decode cX7_directlyChanged 29 = .ok (.sipush 663, 3) := by decide +kernel
theorem dX7_directlyChanged_32 : decode cX7_directlyChanged 32 = .ok (.iconst 2, 1) := by decide +kernel
theorem dX7_directlyChanged_33 : decode cX7_directlyChanged 33 = .ok (.iload_n 3, 1) := by decide +kernel
theorem dX7_directlyChanged_34 : decode cX7_directlyChanged 34 = .ok (.imul, 1) := by decide +kernel
theorem dX7_directlyChanged_35 : decode cX7_directlyChanged 35 = .ok (.iadd, 1) := by decide +kernel
theorem dX7_directlyChanged_36 : decode cX7_directlyChanged 36 = .ok (.iload_n 1, 1) := by decide +kernel
theorem dX7_directlyChanged_37 : decode cX7_directlyChanged 37 = .ok (.iadd, 1) := by decide +kernel
theorem dX7_directlyChanged_38 : decode cX7_directlyChanged 38 = .ok (.iaload, 1) := by decide +kernel
theorem dX7_directlyChanged_39 : decode cX7_directlyChanged 39 = .ok (.iconst 1, 1) := by decide +kernel
theorem dX7_directlyChanged_40 : decode cX7_directlyChanged 40 = .ok (.if_icmp .ne 9, 3) := by decide +kernel
theorem dX7_directlyChanged_43 : decode cX7_directlyChanged 43 = .ok (.iconst 1, 1) := by decide +kernel
theorem dX7_directlyChanged_44 : decode cX7_directlyChanged 44 = .ok (.iload_n 3, 1) := by decide +kernel
theorem dX7_directlyChanged_45 : decode cX7_directlyChanged 45 = .ok (.ishl, 1) := by decide +kernel
theorem dX7_directlyChanged_46 : decode cX7_directlyChanged 46 = .ok (.goto 4, 3) := by decide +kernel
theorem dX7_directlyChanged_49 : decode cX7_directlyChanged 49 = .ok (.iconst 0, 1) := by decide +kernel
theorem dX7_directlyChanged_50 : decode cX7_directlyChanged 50 = .ok (.ior, 1) := by decide +kernel
theorem dX7_directlyChanged_51 : decode cX7_directlyChanged 51 = .ok (.istore_n 2, 1) := by decide +kernel
theorem dX7_directlyChanged_52 : decode cX7_directlyChanged 52 = .ok (.iinc 3 1, 3) := by decide +kernel
theorem dX7_directlyChanged_55 : decode cX7_directlyChanged 55 = .ok (.goto (-41), 3) := by decide +kernel
theorem dX7_directlyChanged_58 : decode cX7_directlyChanged 58 = .ok (.iload_n 2, 1) := by decide +kernel
theorem dX7_directlyChanged_59 : decode cX7_directlyChanged 59 = .ok (.ireturn, 1) := by decide +kernel
theorem dX7_changed_0 : decode cX7_changed 0 = .ok (.iload_n 1, 1) := by decide +kernel
theorem dX7_changed_1 : decode cX7_changed 1 = .ok (.invokestatic 87, 3) := by decide +kernel
theorem dX7_changed_4 : decode cX7_changed 4 = .ok (.ifCond .ne 6, 3) := by decide +kernel
theorem dX7_changed_7 : decode cX7_changed 7 = .ok (.bipush (-3), 2) := by decide +kernel
theorem dX7_changed_9 : decode cX7_changed 9 = .ok (.ireturn, 1) := by decide +kernel
theorem dX7_changed_10 : decode cX7_changed 10 = .ok (.aload_n 0, 1) := by decide +kernel
theorem dX7_changed_11 : decode cX7_changed 11 = .ok (.invokevirtual 90, 3) := by decide +kernel
theorem dX7_changed_14 : decode cX7_changed 14 = .ok (.aload_n 0, 1) := by decide +kernel
theorem dX7_changed_15 : decode cX7_changed 15 = .ok (.iload_n 1, 1) := by decide +kernel
theorem dX7_changed_16 : decode cX7_changed 16 = .ok (.invokevirtual 93, 3) := by decide +kernel
theorem dX7_changed_19 : decode cX7_changed 19 = .ok (.ireturn, 1) := by decide +kernel
theorem dX7_rebuilt_0 : decode cX7_rebuilt 0 = .ok (.aload_n 0, 1) := by decide +kernel
theorem dX7_rebuilt_1 : decode cX7_rebuilt 1 = .ok (.invokevirtual 90, 3) := by decide +kernel
theorem dX7_rebuilt_4 : decode cX7_rebuilt 4 = .ok (.aload_n 0, 1) := by decide +kernel
theorem dX7_rebuilt_5 : decode cX7_rebuilt 5 = .ok (.iconst 1, 1) := by decide +kernel
theorem dX7_rebuilt_6 : decode cX7_rebuilt 6 = .ok (.invokevirtual 93, 3) := by decide +kernel
theorem dX7_rebuilt_9 : decode cX7_rebuilt 9 = .ok (.ireturn, 1) := by decide +kernel
theorem dX7_affectedTests_0 : decode cX7_affectedTests 0 = .ok (.aload_n 0, 1) := by decide +kernel
theorem dX7_affectedTests_1 : decode cX7_affectedTests 1 = .ok (.invokevirtual 96, 3) := by decide +kernel
theorem dX7_affectedTests_4 : decode cX7_affectedTests 4 = .ok (.istore_n 1, 1) := by decide +kernel
theorem dX7_affectedTests_5 : decode cX7_affectedTests 5 = .ok (.iconst 0, 1) := by decide +kernel
theorem dX7_affectedTests_6 : decode cX7_affectedTests 6 = .ok (.istore_n 2, 1) := by decide +kernel
theorem dX7_affectedTests_7 : decode cX7_affectedTests 7 = .ok (.iconst 0, 1) := by decide +kernel
theorem dX7_affectedTests_8 : decode cX7_affectedTests 8 = .ok (.istore_n 3, 1) := by decide +kernel
theorem dX7_affectedTests_9 : decode cX7_affectedTests 9 = .ok (.iload_n 3, 1) := by decide +kernel
theorem dX7_affectedTests_10 : decode cX7_affectedTests 10 = .ok (.aload_n 0, 1) := by decide +kernel
theorem dX7_affectedTests_11 : decode cX7_affectedTests 11 = .ok (.getfield 7, 3) := by decide +kernel
theorem dX7_affectedTests_14 : decode cX7_affectedTests 14 = .ok (.iconst 0, 1) := by decide +kernel
theorem dX7_affectedTests_15 : decode cX7_affectedTests 15 = .ok (.iaload, 1) := by decide +kernel
theorem dX7_affectedTests_16 : decode cX7_affectedTests 16 = .ok (.if_icmp .ge 39, 3) := by decide +kernel
theorem dX7_affectedTests_19 : decode cX7_affectedTests 19 = .ok (.iload_n 2, 1) := by decide +kernel
theorem dX7_affectedTests_20 : decode cX7_affectedTests 20 = .ok (.aload_n 0, 1) := by decide +kernel
theorem dX7_affectedTests_21 : decode cX7_affectedTests 21 = .ok (.iload_n 3, 1) := by decide +kernel
theorem dX7_affectedTests_22 : decode cX7_affectedTests 22 = .ok (.invokevirtual 45, 3) := by decide +kernel
theorem dX7_affectedTests_25 : decode cX7_affectedTests 25 = .ok (.iconst 2, 1) := by decide +kernel
theorem dX7_affectedTests_26 : decode cX7_affectedTests 26 = .ok (.if_icmp .ne 20, 3) := by decide +kernel
theorem dX7_affectedTests_29 : decode cX7_affectedTests 29 = .ok (.aload_n 0, 1) := by decide +kernel
theorem dX7_affectedTests_30 : decode cX7_affectedTests 30 = .ok (.iload_n 3, 1) := by decide +kernel
theorem dX7_affectedTests_31 : decode cX7_affectedTests 31 = .ok (.iconst 2, 1) := by decide +kernel
theorem dX7_affectedTests_32 : decode cX7_affectedTests 32 = .ok (.invokevirtual 61, 3) := by decide +kernel
theorem dX7_affectedTests_35 : decode cX7_affectedTests 35 = .ok (.iload_n 1, 1) := by decide +kernel
theorem dX7_affectedTests_36 : decode cX7_affectedTests 36 = .ok (.iand, 1) := by decide +kernel
theorem dX7_affectedTests_37 : decode cX7_affectedTests 37 = .ok (.ifCond .eq 9, 3) := by decide +kernel
theorem dX7_affectedTests_40 : decode cX7_affectedTests 40 = .ok (.iconst 1, 1) := by decide +kernel
theorem dX7_affectedTests_41 : decode cX7_affectedTests 41 = .ok (.iload_n 3, 1) := by decide +kernel
theorem dX7_affectedTests_42 : decode cX7_affectedTests 42 = .ok (.ishl, 1) := by decide +kernel
theorem dX7_affectedTests_43 : decode cX7_affectedTests 43 = .ok (.goto 4, 3) := by decide +kernel
theorem dX7_affectedTests_46 : decode cX7_affectedTests 46 = .ok (.iconst 0, 1) := by decide +kernel
theorem dX7_affectedTests_47 : decode cX7_affectedTests 47 = .ok (.ior, 1) := by decide +kernel
theorem dX7_affectedTests_48 : decode cX7_affectedTests 48 = .ok (.istore_n 2, 1) := by decide +kernel
theorem dX7_affectedTests_49 : decode cX7_affectedTests 49 = .ok (.iinc 3 1, 3) := by decide +kernel
theorem dX7_affectedTests_52 : decode cX7_affectedTests 52 = .ok (.goto (-43), 3) := by decide +kernel
theorem dX7_affectedTests_55 : decode cX7_affectedTests 55 = .ok (.iload_n 2, 1) := by decide +kernel
theorem dX7_affectedTests_56 : decode cX7_affectedTests 56 = .ok (.ireturn, 1) := by decide +kernel
theorem dX7_laySteps_0 : decode cX7_laySteps 0 = .ok (.iconst 0, 1) := by decide +kernel
theorem dX7_laySteps_1 : decode cX7_laySteps 1 = .ok (.istore_n 2, 1) := by decide +kernel
theorem dX7_laySteps_2 : decode cX7_laySteps 2 = .ok (.iload_n 2, 1) := by decide +kernel
theorem dX7_laySteps_3 : decode cX7_laySteps 3 = .ok (.bipush 40, 2) := by decide +kernel
theorem dX7_laySteps_5 : decode cX7_laySteps 5 = .ok (.if_icmp .ge 26, 3) := by decide +kernel
theorem dX7_laySteps_8 : decode cX7_laySteps 8 = .ok (.aload_n 0, 1) := by decide +kernel
theorem dX7_laySteps_9 : decode cX7_laySteps 9 = .ok (.getfield 23, 3) := by decide +kernel
theorem dX7_laySteps_12 : decode cX7_laySteps 12 = .ok (.iload_n 2, 1) := by decide +kernel
theorem dX7_laySteps_13 : decode cX7_laySteps 13 = .ok (.iload_n 2, 1) := by decide +kernel
theorem dX7_laySteps_14 : decode cX7_laySteps 14 = .ok (.iload_n 1, 1) := by decide +kernel
theorem dX7_laySteps_15 : decode cX7_laySteps 15 = .ok (.if_icmp .ne 7, 3) := by decide +kernel
theorem dX7_laySteps_18 : decode cX7_laySteps 18 = .ok (.iconst 0, 1) := by decide +kernel
theorem dX7_laySteps_19 : decode cX7_laySteps 19 = .ok (.goto 5, 3) := by decide +kernel
theorem dX7_laySteps_22 : decode cX7_laySteps 22 = .ok (.bipush (-10), 2) := by decide +kernel
theorem dX7_laySteps_24 : decode cX7_laySteps 24 = .ok (.iastore, 1) := by decide +kernel
theorem dX7_laySteps_25 : decode cX7_laySteps 25 = .ok (.iinc 2 1, 3) := by decide +kernel
theorem dX7_laySteps_28 : decode cX7_laySteps 28 = .ok (.goto (-26), 3) := by decide +kernel
theorem dX7_laySteps_31 : decode cX7_laySteps 31 = .ok (.iconst 0, 1) := by decide +kernel
theorem dX7_laySteps_32 : decode cX7_laySteps 32 = .ok (.istore_n 2, 1) := by decide +kernel
theorem dX7_laySteps_33 : decode cX7_laySteps 33 = .ok (.iload_n 2, 1) := by decide +kernel
theorem dX7_laySteps_34 : decode cX7_laySteps 34 = .ok (.bipush 40, 2) := by decide +kernel
theorem dX7_laySteps_36 : decode cX7_laySteps 36 = .ok (.if_icmp .ge 99, 3) := by decide +kernel
theorem dX7_laySteps_39 : decode cX7_laySteps 39 = .ok (.iconst 0, 1) := by decide +kernel
theorem dX7_laySteps_40 : decode cX7_laySteps 40 = .ok (.istore_n 3, 1) := by decide +kernel
theorem dX7_laySteps_41 : decode cX7_laySteps 41 = .ok (.iload_n 3, 1) := by decide +kernel
theorem dX7_laySteps_42 : decode cX7_laySteps 42 = .ok (.iconst 2, 1) := by decide +kernel
theorem dX7_laySteps_43 : decode cX7_laySteps 43 = .ok (.aload_n 0, 1) := by decide +kernel
theorem dX7_laySteps_44 : decode cX7_laySteps 44 = .ok (.getfield 7, 3) := by decide +kernel
theorem dX7_laySteps_47 : decode cX7_laySteps 47 = .ok (.iconst 0, 1) := by decide +kernel
theorem dX7_laySteps_48 : decode cX7_laySteps 48 = .ok (.iaload, 1) := by decide +kernel
theorem dX7_laySteps_49 : decode cX7_laySteps 49 = .ok (.imul, 1) := by decide +kernel
theorem dX7_laySteps_50 : decode cX7_laySteps 50 = .ok (.if_icmp .ge 79, 3) := by decide +kernel
theorem dX7_laySteps_53 : decode cX7_laySteps 53 = .ok (.iconst 0, 1) := by decide +kernel
theorem dX7_laySteps_54 : decode cX7_laySteps 54 = .ok (.istore 4, 2) := by decide +kernel
theorem dX7_laySteps_56 : decode cX7_laySteps 56 = .ok (.iload 4, 2) := by decide +kernel
theorem dX7_laySteps_58 : decode cX7_laySteps 58 = .ok (.iconst 2, 1) := by decide +kernel
theorem dX7_laySteps_59 : decode cX7_laySteps 59 = .ok (.aload_n 0, 1) := by decide +kernel
theorem dX7_laySteps_60 : decode cX7_laySteps 60 = .ok (.getfield 7, 3) := by decide +kernel
theorem dX7_laySteps_63 : decode cX7_laySteps 63 = .ok (.iconst 0, 1) := by decide +kernel
theorem dX7_laySteps_64 : decode cX7_laySteps 64 = .ok (.iaload, 1) := by decide +kernel
theorem dX7_laySteps_65 : decode cX7_laySteps 65 = .ok (.imul, 1) := by decide +kernel
theorem dX7_laySteps_66 : decode cX7_laySteps 66 = .ok (.if_icmp .ge 57, 3) := by decide +kernel
theorem dX7_laySteps_69 : decode cX7_laySteps 69 = .ok (.aload_n 0, 1) := by decide +kernel
theorem dX7_laySteps_70 : decode cX7_laySteps 70 = .ok (.getfield 23, 3) := by decide +kernel
theorem dX7_laySteps_73 : decode cX7_laySteps 73 = .ok (.iload_n 3, 1) := by decide +kernel
theorem dX7_laySteps_74 : decode cX7_laySteps 74 = .ok (.iaload, 1) := by decide +kernel
theorem dX7_laySteps_75 : decode cX7_laySteps 75 = .ok (.ifCond .ge 48, 3) := by decide +kernel
theorem dX7_laySteps_78 : decode cX7_laySteps 78 = .ok (.aload_n 0, 1) := by decide +kernel
theorem dX7_laySteps_79 : decode cX7_laySteps 79 = .ok (.getfield 23, 3) := by decide +kernel
theorem dX7_laySteps_82 : decode cX7_laySteps 82 = .ok (.iload_n 3, 1) := by decide +kernel
theorem dX7_laySteps_83 : decode cX7_laySteps 83 = .ok (.aload_n 0, 1) := by decide +kernel
theorem dX7_laySteps_84 : decode cX7_laySteps 84 = .ok (.getfield 23, 3) := by decide +kernel
theorem dX7_laySteps_87 : decode cX7_laySteps 87 = .ok (.iload 4, 2) := by decide +kernel
theorem dX7_laySteps_89 : decode cX7_laySteps 89 = .ok (.iaload, 1) := by decide +kernel
theorem dX7_laySteps_90 : decode cX7_laySteps 90 = .ok (.iload_n 2, 1) := by decide +kernel
theorem dX7_laySteps_91 : decode cX7_laySteps 91 = .ok (.if_icmp .ne 19, 3) := by decide +kernel
theorem dX7_laySteps_94 : decode cX7_laySteps 94 = .ok (.aload_n 0, 1) := by decide +kernel
theorem dX7_laySteps_95 : decode cX7_laySteps 95 = .ok (.iload_n 3, 1) := by decide +kernel
theorem dX7_laySteps_96 : decode cX7_laySteps 96 = .ok (.iload 4, 2) := by decide +kernel
theorem dX7_laySteps_98 : decode cX7_laySteps 98 = .ok (.invokevirtual 80, 3) := by decide +kernel
theorem dX7_laySteps_101 : decode cX7_laySteps 101 = .ok (.ifCond .eq 9, 3) := by decide +kernel
theorem dX7_laySteps_104 : decode cX7_laySteps 104 = .ok (.iload_n 2, 1) := by decide +kernel
theorem dX7_laySteps_105 : decode cX7_laySteps 105 = .ok (.iconst 1, 1) := by decide +kernel
theorem dX7_laySteps_106 : decode cX7_laySteps 106 = .ok (.iadd, 1) := by decide +kernel
theorem dX7_laySteps_107 : decode cX7_laySteps 107 = .ok (.goto 9, 3) := by decide +kernel
theorem dX7_laySteps_110 : decode cX7_laySteps 110 = .ok (.aload_n 0, 1) := by decide +kernel
theorem dX7_laySteps_111 : decode cX7_laySteps 111 = .ok (.getfield 23, 3) := by decide +kernel
theorem dX7_laySteps_114 : decode cX7_laySteps 114 = .ok (.iload_n 3, 1) := by decide +kernel
theorem dX7_laySteps_115 : decode cX7_laySteps 115 = .ok (.iaload, 1) := by decide +kernel
theorem dX7_laySteps_116 : decode cX7_laySteps 116 = .ok (.iastore, 1) := by decide +kernel
theorem dX7_laySteps_117 : decode cX7_laySteps 117 = .ok (.iinc 4 1, 3) := by decide +kernel
theorem dX7_laySteps_120 : decode cX7_laySteps 120 = .ok (.goto (-64), 3) := by decide +kernel
theorem dX7_laySteps_123 : decode cX7_laySteps 123 = .ok (.iinc 3 1, 3) := by decide +kernel
theorem dX7_laySteps_126 : decode cX7_laySteps 126 = .ok (.goto (-85), 3) := by decide +kernel
theorem dX7_laySteps_129 : decode cX7_laySteps 129 = .ok (.iinc 2 1, 3) := by decide +kernel
theorem dX7_laySteps_132 : decode cX7_laySteps 132 = .ok (.goto (-99), 3) := by decide +kernel
theorem dX7_laySteps_135 : decode cX7_laySteps 135 = .ok (.return_, 1) := by decide +kernel
theorem dX7_smallest_0 : decode cX7_smallest 0 = .ok (.iconst 0, 1) := by decide +kernel
theorem dX7_smallest_1 : decode cX7_smallest 1 = .ok (.istore_n 3, 1) := by decide +kernel
theorem dX7_smallest_2 : decode cX7_smallest 2 = .ok (.iload_n 3, 1) := by decide +kernel
theorem dX7_smallest_3 : decode cX7_smallest 3 = .ok (.iconst 2, 1) := by decide +kernel
theorem dX7_smallest_4 : decode cX7_smallest 4 = .ok (.aload_n 0, 1) := by decide +kernel
theorem dX7_smallest_5 : decode cX7_smallest 5 = .ok (.getfield 7, 3) := by decide +kernel
theorem dX7_smallest_8 : decode cX7_smallest 8 = .ok (.iconst 0, 1) := by decide +kernel
theorem dX7_smallest_9 : decode cX7_smallest 9 = .ok (.iaload, 1) := by decide +kernel
theorem dX7_smallest_10 : decode cX7_smallest 10 = .ok (.imul, 1) := by decide +kernel
theorem dX7_smallest_11 : decode cX7_smallest 11 = .ok (.if_icmp .ge 60, 3) := by decide +kernel
theorem dX7_smallest_14 : decode cX7_smallest 14 = .ok (.iload_n 2, 1) := by decide +kernel
theorem dX7_smallest_15 : decode cX7_smallest 15 = .ok (.ifCond .ge 25, 3) := by decide +kernel
theorem dX7_smallest_18 : decode cX7_smallest 18 = .ok (.aload_n 0, 1) := by decide +kernel
theorem dX7_smallest_19 : decode cX7_smallest 19 = .ok (.getfield 7, 3) := by decide +kernel
theorem dX7_smallest_22 : decode cX7_smallest 22 = .ok (.sipush 663, 3) := by decide +kernel
theorem dX7_smallest_25 : decode cX7_smallest 25 = .ok (.iload_n 3, 1) := by decide +kernel
theorem dX7_smallest_26 : decode cX7_smallest 26 = .ok (.iadd, 1) := by decide +kernel
theorem dX7_smallest_27 : decode cX7_smallest 27 = .ok (.iaload, 1) := by decide +kernel
theorem dX7_smallest_28 : decode cX7_smallest 28 = .ok (.iconst 1, 1) := by decide +kernel
theorem dX7_smallest_29 : decode cX7_smallest 29 = .ok (.if_icmp .ne 7, 3) := by decide +kernel
theorem dX7_smallest_32 : decode cX7_smallest 32 = .ok (.iconst 1, 1) := by decide +kernel
theorem dX7_smallest_33 : decode cX7_smallest 33 = .ok (.goto 13, 3) := by decide +kernel
theorem dX7_smallest_36 : decode cX7_smallest 36 = .ok (.iconst 0, 1) := by decide +kernel
theorem dX7_smallest_37 : decode cX7_smallest 37 = .ok (.goto 9, 3) := by decide +kernel
theorem dX7_smallest_40 : decode cX7_smallest 40 = .ok (.aload_n 0, 1) := by decide +kernel
theorem dX7_smallest_41 : decode cX7_smallest 41 = .ok (.iload_n 2, 1) := by decide +kernel
theorem dX7_smallest_42 : decode cX7_smallest 42 = .ok (.iload_n 3, 1) := by decide +kernel
theorem dX7_smallest_43 : decode cX7_smallest 43 = .ok (.invokevirtual 80, 3) := by decide +kernel
theorem dX7_smallest_46 : decode cX7_smallest 46 = .ok (.istore 4, 2) := by decide +kernel
theorem dX7_smallest_48 : decode cX7_smallest 48 = .ok (.iload 4, 2) := by decide +kernel
theorem dX7_smallest_50 : decode cX7_smallest 50 = .ok (.ifCond .eq 15, 3) := by decide +kernel
theorem dX7_smallest_53 : decode cX7_smallest 53 = .ok (.aload_n 0, 1) := by decide +kernel
theorem dX7_smallest_54 : decode cX7_smallest 54 = .ok (.getfield 23, 3) := by decide +kernel
theorem dX7_smallest_57 : decode cX7_smallest 57 = .ok (.iload_n 3, 1) := by decide +kernel
theorem dX7_smallest_58 : decode cX7_smallest 58 = .ok (.iaload, 1) := by decide +kernel
theorem dX7_smallest_59 : decode cX7_smallest 59 = .ok (.iload_n 1, 1) := by decide +kernel
theorem dX7_smallest_60 : decode cX7_smallest 60 = .ok (.if_icmp .ne 5, 3) := by decide +kernel
theorem dX7_smallest_63 : decode cX7_smallest 63 = .ok (.iload_n 3, 1) := by decide +kernel
theorem dX7_smallest_64 : decode cX7_smallest 64 = .ok (.ireturn, 1) := by decide +kernel
theorem dX7_smallest_65 : decode cX7_smallest 65 = .ok (.iinc 3 1, 3) := by decide +kernel
theorem dX7_smallest_68 : decode cX7_smallest 68 = .ok (.goto (-66), 3) := by decide +kernel
theorem dX7_smallest_71 : decode cX7_smallest 71 = .ok (.bipush (-10), 2) := by decide +kernel
theorem dX7_smallest_73 : decode cX7_smallest 73 = .ok (.ireturn, 1) := by decide +kernel
theorem dX7_chain_0 : decode cX7_chain 0 = .ok (.aload_n 0, 1) := by decide +kernel
theorem dX7_chain_1 : decode cX7_chain 1 = .ok (.iload_n 1, 1) := by decide +kernel
theorem dX7_chain_2 : decode cX7_chain 2 = .ok (.invokevirtual 57, 3) := by decide +kernel
theorem dX7_chain_5 : decode cX7_chain 5 = .ok (.ifCond .ne 5, 3) := by decide +kernel
theorem dX7_chain_8 : decode cX7_chain 8 = .ok (.iconst (-1), 1) := by decide +kernel
theorem dX7_chain_9 : decode cX7_chain 9 = .ok (.ireturn, 1) := by decide +kernel
theorem dX7_chain_10 : decode cX7_chain 10 = .ok (.iload_n 2, 1) := by decide +kernel
theorem dX7_chain_11 : decode cX7_chain 11 = .ok (.invokestatic 87, 3) := by decide +kernel
theorem dX7_chain_14 : decode cX7_chain 14 = .ok (.ifCond .ne 6, 3) := by decide +kernel
theorem dX7_chain_17 : decode cX7_chain 17 = .ok (.bipush (-3), 2) := by decide +kernel
theorem dX7_chain_19 : decode cX7_chain 19 = .ok (.ireturn, 1) := by decide +kernel
theorem dX7_chain_20 : decode cX7_chain 20 = .ok (.aload_n 0, 1) := by decide +kernel
theorem dX7_chain_21 : decode cX7_chain 21 = .ok (.invokevirtual 90, 3) := by decide +kernel
theorem dX7_chain_24 : decode cX7_chain 24 = .ok (.aload_n 0, 1) := by decide +kernel
theorem dX7_chain_25 : decode cX7_chain 25 = .ok (.getfield 20, 3) := by decide +kernel
theorem dX7_chain_28 : decode cX7_chain 28 = .ok (.iconst 2, 1) := by decide +kernel
theorem dX7_chain_29 : decode cX7_chain 29 = .ok (.iload_n 1, 1) := by decide +kernel
theorem dX7_chain_30 : decode cX7_chain 30 = .ok (.imul, 1) := by decide +kernel
theorem dX7_chain_31 : decode cX7_chain 31 = .ok (.iload_n 2, 1) := by decide +kernel
theorem dX7_chain_32 : decode cX7_chain 32 = .ok (.iadd, 1) := by decide +kernel
theorem dX7_chain_33 : decode cX7_chain 33 = .ok (.baload, 1) := by decide +kernel
theorem dX7_chain_34 : decode cX7_chain 34 = .ok (.ifCond .ne 6, 3) := by decide +kernel
theorem dX7_chain_37 : decode cX7_chain 37 = .ok (.bipush (-10), 2) := by decide +kernel
theorem dX7_chain_39 : decode cX7_chain 39 = .ok (.ireturn, 1) := by decide +kernel
theorem dX7_chain_40 : decode cX7_chain 40 = .ok (.aload_n 0, 1) := by decide +kernel
theorem dX7_chain_41 : decode cX7_chain 41 = .ok (.iconst 2, 1) := by decide +kernel
theorem dX7_chain_42 : decode cX7_chain 42 = .ok (.iload_n 1, 1) := by decide +kernel
theorem dX7_chain_43 : decode cX7_chain 43 = .ok (.imul, 1) := by decide +kernel
theorem dX7_chain_44 : decode cX7_chain 44 = .ok (.iload_n 2, 1) := by decide +kernel
theorem dX7_chain_45 : decode cX7_chain 45 = .ok (.iadd, 1) := by decide +kernel
theorem dX7_chain_46 : decode cX7_chain 46 = .ok (.invokevirtual 99, 3) := by decide +kernel
theorem dX7_chain_49 : decode cX7_chain 49 = .ok (.iconst 0, 1) := by decide +kernel
theorem dX7_chain_50 : decode cX7_chain 50 = .ok (.istore 4, 2) := by decide +kernel
theorem dX7_chain_52 : decode cX7_chain 52 = .ok (.aload_n 0, 1) := by decide +kernel
theorem dX7_chain_53 : decode cX7_chain 53 = .ok (.iload 4, 2) := by decide +kernel
theorem dX7_chain_55 : decode cX7_chain 55 = .ok (.bipush (-10), 2) := by decide +kernel
theorem dX7_chain_57 : decode cX7_chain 57 = .ok (.invokevirtual 103, 3) := by decide +kernel
theorem dX7_chain_60 : decode cX7_chain 60 = .ok (.ifCond .ge 9, 3) := by decide +kernel
theorem dX7_chain_63 : decode cX7_chain 63 = .ok (.iinc 4 1, 3) := by decide +kernel
theorem dX7_chain_66 : decode cX7_chain 66 = .ok (.goto (-14), 3) := by decide +kernel
theorem dX7_chain_69 : decode cX7_chain 69 = .ok (.iload_n 3, 1) := by decide +kernel
theorem dX7_chain_70 : decode cX7_chain 70 = .ok (.iconst (-1), 1) := by decide +kernel
theorem dX7_chain_71 : decode cX7_chain 71 = .ok (.if_icmp .ne 8, 3) := by decide +kernel
theorem dX7_chain_74 : decode cX7_chain 74 = .ok (.iload 4, 2) := by decide +kernel
theorem dX7_chain_76 : decode cX7_chain 76 = .ok (.iconst 1, 1) := by decide +kernel
theorem dX7_chain_77 : decode cX7_chain 77 = .ok (.iadd, 1) := by decide +kernel
theorem dX7_chain_78 : decode cX7_chain 78 = .ok (.ireturn, 1) := by decide +kernel
theorem dX7_chain_79 : decode cX7_chain 79 = .ok (.iload_n 3, 1) := by decide +kernel
theorem dX7_chain_80 : decode cX7_chain 80 = .ok (.iconst 0, 1) := by decide +kernel
theorem dX7_chain_81 : decode cX7_chain 81 = .ok (.iload 4, 2) := by decide +kernel
theorem dX7_chain_83 : decode cX7_chain 83 = .ok (.invokestatic 41, 3) := by decide +kernel
theorem dX7_chain_86 : decode cX7_chain 86 = .ok (.ifCond .ne 6, 3) := by decide +kernel
theorem dX7_chain_89 : decode cX7_chain 89 = .ok (.bipush (-10), 2) := by decide +kernel
theorem dX7_chain_91 : decode cX7_chain 91 = .ok (.ireturn, 1) := by decide +kernel
theorem dX7_chain_92 : decode cX7_chain 92 = .ok (.aload_n 0, 1) := by decide +kernel
theorem dX7_chain_93 : decode cX7_chain 93 = .ok (.iload 4, 2) := by decide +kernel
theorem dX7_chain_95 : decode cX7_chain 95 = .ok (.bipush (-10), 2) := by decide +kernel
theorem dX7_chain_97 : decode cX7_chain 97 = .ok (.invokevirtual 103, 3) := by decide +kernel
theorem dX7_chain_100 : decode cX7_chain 100 = .ok (.istore 5, 2) := by decide +kernel
theorem dX7_chain_102 : decode cX7_chain 102 = .ok (.iconst 0, 1) := by decide +kernel
theorem dX7_chain_103 : decode cX7_chain 103 = .ok (.istore 6, 2) := by decide +kernel
theorem dX7_chain_105 : decode cX7_chain 105 = .ok (.iload 6, 2) := by decide +kernel
theorem dX7_chain_107 : decode cX7_chain 107 = .ok (.iload_n 3, 1) := by decide +kernel
theorem dX7_chain_108 : decode cX7_chain 108 = .ok (.if_icmp .ge 24, 3) := by decide +kernel
theorem dX7_chain_111 : decode cX7_chain 111 = .ok (.aload_n 0, 1) := by decide +kernel
theorem dX7_chain_112 : decode cX7_chain 112 = .ok (.iload 4, 2) := by decide +kernel
theorem dX7_chain_114 : decode cX7_chain 114 = .ok (.iconst 1, 1) := by decide +kernel
theorem dX7_chain_115 : decode cX7_chain 115 = .ok (.isub, 1) := by decide +kernel
theorem dX7_chain_116 : decode cX7_chain 116 = .ok (.iload 6, 2) := by decide +kernel
theorem dX7_chain_118 : decode cX7_chain 118 = .ok (.isub, 1) := by decide +kernel
theorem dX7_chain_119 : decode cX7_chain 119 = .ok (.iload 5, 2) := by decide +kernel
theorem dX7_chain_121 : decode cX7_chain 121 = .ok (.invokevirtual 103, 3) := by decide +kernel
theorem dX7_chain_124 : decode cX7_chain 124 = .ok (.istore 5, 2) := by decide +kernel
theorem dX7_chain_126 : decode cX7_chain 126 = .ok (.iinc 6 1, 3) := by decide +kernel
theorem dX7_chain_129 : decode cX7_chain 129 = .ok (.goto (-24), 3) := by decide +kernel
theorem dX7_chain_132 : decode cX7_chain 132 = .ok (.iload 5, 2) := by decide +kernel
theorem dX7_chain_134 : decode cX7_chain 134 = .ok (.ireturn, 1) := by decide +kernel
theorem dX7_impactOf_0 : decode cX7_impactOf 0 = .ok (.iconst 0, 1) := by decide +kernel
theorem dX7_impactOf_1 : decode cX7_impactOf 1 = .ok (.istore_n 2, 1) := by decide +kernel
theorem dX7_impactOf_2 : decode cX7_impactOf 2 = .ok (.iload_n 2, 1) := by decide +kernel
theorem dX7_impactOf_3 : decode cX7_impactOf 3 = .ok (.bipush 40, 2) := by decide +kernel
theorem dX7_impactOf_5 : decode cX7_impactOf 5 = .ok (.if_icmp .ge 25, 3) := by decide +kernel
theorem dX7_impactOf_8 : decode cX7_impactOf 8 = .ok (.aload_n 0, 1) := by decide +kernel
theorem dX7_impactOf_9 : decode cX7_impactOf 9 = .ok (.getfield 20, 3) := by decide +kernel
theorem dX7_impactOf_12 : decode cX7_impactOf 12 = .ok (.iload_n 2, 1) := by decide +kernel
theorem dX7_impactOf_13 : decode cX7_impactOf 13 = .ok (.iload_n 2, 1) := by decide +kernel
theorem dX7_impactOf_14 : decode cX7_impactOf 14 = .ok (.iload_n 1, 1) := by decide +kernel
theorem dX7_impactOf_15 : decode cX7_impactOf 15 = .ok (.if_icmp .ne 7, 3) := by decide +kernel
theorem dX7_impactOf_18 : decode cX7_impactOf 18 = .ok (.iconst 1, 1) := by decide +kernel
theorem dX7_impactOf_19 : decode cX7_impactOf 19 = .ok (.goto 4, 3) := by decide +kernel
theorem dX7_impactOf_22 : decode cX7_impactOf 22 = .ok (.iconst 0, 1) := by decide +kernel
theorem dX7_impactOf_23 : decode cX7_impactOf 23 = .ok (.bastore, 1) := by decide +kernel
theorem dX7_impactOf_24 : decode cX7_impactOf 24 = .ok (.iinc 2 1, 3) := by decide +kernel
theorem dX7_impactOf_27 : decode cX7_impactOf 27 = .ok (.goto (-25), 3) := by decide +kernel
theorem dX7_impactOf_30 : decode cX7_impactOf 30 = .ok (.aload_n 0, 1) := by decide +kernel
theorem dX7_impactOf_31 : decode cX7_impactOf 31 = .ok (.invokevirtual 84, 3) := by decide +kernel
theorem dX7_impactOf_34 : decode cX7_impactOf 34 = .ok (.iconst 0, 1) := by decide +kernel
theorem dX7_impactOf_35 : decode cX7_impactOf 35 = .ok (.istore_n 2, 1) := by decide +kernel
theorem dX7_impactOf_36 : decode cX7_impactOf 36 = .ok (.iconst 0, 1) := by decide +kernel
theorem dX7_impactOf_37 : decode cX7_impactOf 37 = .ok (.istore_n 3, 1) := by decide +kernel
theorem dX7_impactOf_38 : decode cX7_impactOf 38 = .ok (.iload_n 3, 1) := by decide +kernel
theorem dX7_impactOf_39 : decode cX7_impactOf 39 = .ok (.aload_n 0, 1) := by decide +kernel
theorem dX7_impactOf_40 : decode cX7_impactOf 40 = .ok (.getfield 7, 3) := by decide +kernel
theorem dX7_impactOf_43 : decode cX7_impactOf 43 = .ok (.iconst 0, 1) := by decide +kernel
theorem dX7_impactOf_44 : decode cX7_impactOf 44 = .ok (.iaload, 1) := by decide +kernel
theorem dX7_impactOf_45 : decode cX7_impactOf 45 = .ok (.if_icmp .ge 34, 3) := by decide +kernel
theorem dX7_impactOf_48 : decode cX7_impactOf 48 = .ok (.iload_n 2, 1) := by decide +kernel
theorem dX7_impactOf_49 : decode cX7_impactOf 49 = .ok (.aload_n 0, 1) := by decide +kernel
theorem dX7_impactOf_50 : decode cX7_impactOf 50 = .ok (.getfield 20, 3) := by decide +kernel
theorem dX7_impactOf_53 : decode cX7_impactOf 53 = .ok (.iconst 2, 1) := by decide +kernel
theorem dX7_impactOf_54 : decode cX7_impactOf 54 = .ok (.iload_n 3, 1) := by decide +kernel
theorem dX7_impactOf_55 : decode cX7_impactOf 55 = .ok (.imul, 1) := by decide +kernel
theorem dX7_impactOf_56 : decode cX7_impactOf 56 = .ok (.iconst 1, 1) := by decide +kernel
theorem dX7_impactOf_57 : decode cX7_impactOf 57 = .ok (.iadd, 1) := by decide +kernel
theorem dX7_impactOf_58 : decode cX7_impactOf 58 = .ok (.baload, 1) := by decide +kernel
theorem dX7_impactOf_59 : decode cX7_impactOf 59 = .ok (.ifCond .eq 11, 3) := by decide +kernel
theorem dX7_impactOf_62 : decode cX7_impactOf 62 = .ok (.aload_n 0, 1) := by decide +kernel
theorem dX7_impactOf_63 : decode cX7_impactOf 63 = .ok (.iload_n 3, 1) := by decide +kernel
theorem dX7_impactOf_64 : decode cX7_impactOf 64 = .ok (.invokevirtual 106, 3) := by decide +kernel
theorem dX7_impactOf_67 : decode cX7_impactOf 67 = .ok (.goto 4, 3) := by decide +kernel
theorem dX7_impactOf_70 : decode cX7_impactOf 70 = .ok (.iconst 0, 1) := by decide +kernel
theorem dX7_impactOf_71 : decode cX7_impactOf 71 = .ok (.iadd, 1) := by decide +kernel
theorem dX7_impactOf_72 : decode cX7_impactOf 72 = .ok (.istore_n 2, 1) := by decide +kernel
theorem dX7_impactOf_73 : decode cX7_impactOf 73 = .ok (.iinc 3 1, 3) := by decide +kernel
theorem dX7_impactOf_76 : decode cX7_impactOf 76 = .ok (.goto (-38), 3) := by decide +kernel
theorem dX7_impactOf_79 : decode cX7_impactOf 79 = .ok (.iload_n 2, 1) := by decide +kernel
theorem dX7_impactOf_80 : decode cX7_impactOf 80 = .ok (.ireturn, 1) := by decide +kernel
theorem dX7_impact_0 : decode cX7_impact 0 = .ok (.aload_n 0, 1) := by decide +kernel
theorem dX7_impact_1 : decode cX7_impact 1 = .ok (.iload_n 1, 1) := by decide +kernel
theorem dX7_impact_2 : decode cX7_impact 2 = .ok (.invokevirtual 57, 3) := by decide +kernel
theorem dX7_impact_5 : decode cX7_impact 5 = .ok (.ifCond .ne 5, 3) := by decide +kernel
theorem dX7_impact_8 : decode cX7_impact 8 = .ok (.iconst (-1), 1) := by decide +kernel
theorem dX7_impact_9 : decode cX7_impact 9 = .ok (.ireturn, 1) := by decide +kernel
theorem dX7_impact_10 : decode cX7_impact 10 = .ok (.iload_n 2, 1) := by decide +kernel
theorem dX7_impact_11 : decode cX7_impact 11 = .ok (.invokestatic 87, 3) := by decide +kernel
theorem dX7_impact_14 : decode cX7_impact 14 = .ok (.ifCond .eq 15, 3) := by decide +kernel
theorem dX7_impact_17 : decode cX7_impact 17 = .ok (.aload_n 0, 1) := by decide +kernel
theorem dX7_impact_18 : decode cX7_impact 18 = .ok (.iconst 2, 1) := by decide +kernel
theorem dX7_impact_19 : decode cX7_impact 19 = .ok (.iload_n 1, 1) := by decide +kernel
theorem dX7_impact_20 : decode cX7_impact 20 = .ok (.imul, 1) := by decide +kernel
theorem dX7_impact_21 : decode cX7_impact 21 = .ok (.iload_n 2, 1) := by decide +kernel
theorem dX7_impact_22 : decode cX7_impact 22 = .ok (.iadd, 1) := by decide +kernel
theorem dX7_impact_23 : decode cX7_impact 23 = .ok (.invokevirtual 109, 3) := by decide +kernel
theorem dX7_impact_26 : decode cX7_impact 26 = .ok (.goto 5, 3) := by decide +kernel
theorem dX7_impact_29 : decode cX7_impact 29 = .ok (.bipush (-3), 2) := by decide +kernel
theorem dX7_impact_31 : decode cX7_impact 31 = .ok (.ireturn, 1) := by decide +kernel
theorem dX7_mostCritical_0 : decode cX7_mostCritical 0 = .ok (.iload_n 1, 1) := by decide +kernel
theorem dX7_mostCritical_1 : decode cX7_mostCritical 1 = .ok (.invokestatic 87, 3) := by decide +kernel
theorem dX7_mostCritical_4 : decode cX7_mostCritical 4 = .ok (.ifCond .ne 6, 3) := by decide +kernel
theorem dX7_mostCritical_7 : decode cX7_mostCritical 7 = .ok (.bipush (-3), 2) := by decide +kernel
theorem dX7_mostCritical_9 : decode cX7_mostCritical 9 = .ok (.ireturn, 1) := by decide +kernel
theorem dX7_mostCritical_10 : decode cX7_mostCritical 10 = .ok (.bipush (-10), 2) := by decide +kernel
theorem dX7_mostCritical_12 : decode cX7_mostCritical 12 = .ok (.istore_n 2, 1) := by decide +kernel
theorem dX7_mostCritical_13 : decode cX7_mostCritical 13 = .ok (.iconst 0, 1) := by decide +kernel
theorem dX7_mostCritical_14 : decode cX7_mostCritical 14 = .ok (.istore_n 3, 1) := by decide +kernel
theorem dX7_mostCritical_15 : decode cX7_mostCritical 15 = .ok (.iconst 0, 1) := by decide +kernel
theorem dX7_mostCritical_16 : decode cX7_mostCritical 16 = .ok (.istore 4, 2) := by decide +kernel
theorem dX7_mostCritical_18 : decode cX7_mostCritical 18 = .ok (.iload 4, 2) := by decide +kernel
theorem dX7_mostCritical_20 : decode cX7_mostCritical 20 = .ok (.aload_n 0, 1) := by decide +kernel
theorem dX7_mostCritical_21 : decode cX7_mostCritical 21 = .ok (.getfield 7, 3) := by decide +kernel
theorem dX7_mostCritical_24 : decode cX7_mostCritical 24 = .ok (.iconst 0, 1) := by decide +kernel
theorem dX7_mostCritical_25 : decode cX7_mostCritical 25 = .ok (.iaload, 1) := by decide +kernel
theorem dX7_mostCritical_26 : decode cX7_mostCritical 26 = .ok (.if_icmp .ge 37, 3) := by decide +kernel
theorem dX7_mostCritical_29 : decode cX7_mostCritical 29 = .ok (.aload_n 0, 1) := by decide +kernel
theorem dX7_mostCritical_30 : decode cX7_mostCritical 30 = .ok (.iconst 2, 1) := by decide +kernel
theorem dX7_mostCritical_31 : decode cX7_mostCritical 31 = .ok (.iload 4, 2) := by decide +kernel
theorem dX7_mostCritical_33 : decode cX7_mostCritical 33 = .ok (.imul, 1) := by decide +kernel
theorem dX7_mostCritical_34 : decode cX7_mostCritical 34 = .ok (.iload_n 1, 1) := by decide +kernel
theorem dX7_mostCritical_35 : decode cX7_mostCritical 35 = .ok (.iadd, 1) := by decide +kernel
theorem dX7_mostCritical_36 : decode cX7_mostCritical 36 = .ok (.invokevirtual 109, 3) := by decide +kernel
theorem dX7_mostCritical_39 : decode cX7_mostCritical 39 = .ok (.istore 5, 2) := by decide +kernel
theorem dX7_mostCritical_41 : decode cX7_mostCritical 41 = .ok (.iload_n 2, 1) := by decide +kernel
theorem dX7_mostCritical_42 : decode cX7_mostCritical 42 = .ok (.ifCond .lt 9, 3) := by decide +kernel
theorem dX7_mostCritical_45 : decode cX7_mostCritical 45 = .ok (.iload 5, 2) := by decide +kernel
theorem dX7_mostCritical_47 : decode cX7_mostCritical 47 = .ok (.iload_n 3, 1) := by decide +kernel
theorem dX7_mostCritical_48 : decode cX7_mostCritical 48 = .ok (.if_icmp .le 9, 3) := by decide +kernel
theorem dX7_mostCritical_51 : decode cX7_mostCritical 51 = .ok (.iload 4, 2) := by decide +kernel
theorem dX7_mostCritical_53 : decode cX7_mostCritical 53 = .ok (.istore_n 2, 1) := by decide +kernel
theorem dX7_mostCritical_54 : decode cX7_mostCritical 54 = .ok (.iload 5, 2) := by decide +kernel
theorem dX7_mostCritical_56 : decode cX7_mostCritical 56 = .ok (.istore_n 3, 1) := by decide +kernel
theorem dX7_mostCritical_57 : decode cX7_mostCritical 57 = .ok (.iinc 4 1, 3) := by decide +kernel
theorem dX7_mostCritical_60 : decode cX7_mostCritical 60 = .ok (.goto (-42), 3) := by decide +kernel
theorem dX7_mostCritical_63 : decode cX7_mostCritical 63 = .ok (.iload_n 2, 1) := by decide +kernel
theorem dX7_mostCritical_64 : decode cX7_mostCritical 64 = .ok (.ireturn, 1) := by decide +kernel
theorem dX7_waits_0 : decode cX7_waits 0 = .ok (.aload_n 0, 1) := by decide +kernel
theorem dX7_waits_1 : decode cX7_waits 1 = .ok (.iload_n 1, 1) := by decide +kernel
theorem dX7_waits_2 : decode cX7_waits 2 = .ok (.iload_n 2, 1) := by decide +kernel
theorem dX7_waits_3 : decode cX7_waits 3 = .ok (.invokevirtual 53, 3) := by decide +kernel
theorem dX7_waits_6 : decode cX7_waits 6 = .ok (.ifCond .lt 17, 3) := by decide +kernel
theorem dX7_waits_9 : decode cX7_waits 9 = .ok (.aload_n 0, 1) := by decide +kernel
theorem dX7_waits_10 : decode cX7_waits 10 = .ok (.iload_n 1, 1) := by decide +kernel
theorem dX7_waits_11 : decode cX7_waits 11 = .ok (.iload_n 2, 1) := by decide +kernel
theorem dX7_waits_12 : decode cX7_waits 12 = .ok (.invokevirtual 53, 3) := by decide +kernel
theorem dX7_waits_15 : decode cX7_waits 15 = .ok (.iconst 3, 1) := by decide +kernel
theorem dX7_waits_16 : decode cX7_waits 16 = .ok (.if_icmp .eq 7, 3) := by decide +kernel
theorem dX7_waits_19 : decode cX7_waits 19 = .ok (.iconst 1, 1) := by decide +kernel
theorem dX7_waits_20 : decode cX7_waits 20 = .ok (.goto 4, 3) := by decide +kernel
theorem dX7_waits_23 : decode cX7_waits 23 = .ok (.iconst 0, 1) := by decide +kernel
theorem dX7_waits_24 : decode cX7_waits 24 = .ok (.ireturn, 1) := by decide +kernel
theorem dX7_layOrder_0 : decode cX7_layOrder 0 = .ok (.aload_n 0, 1) := by decide +kernel
theorem dX7_layOrder_1 : decode cX7_layOrder 1 = .ok (.invokevirtual 96, 3) := by decide +kernel
theorem dX7_layOrder_4 : decode cX7_layOrder 4 = .ok (.istore_n 1, 1) := by decide +kernel
theorem dX7_layOrder_5 : decode cX7_layOrder 5 = .ok (.iconst 0, 1) := by decide +kernel
theorem dX7_layOrder_6 : decode cX7_layOrder 6 = .ok (.istore_n 2, 1) := by decide +kernel
theorem dX7_layOrder_7 : decode cX7_layOrder 7 = .ok (.iload_n 1, 1) := by decide +kernel
theorem dX7_layOrder_8 : decode cX7_layOrder 8 = .ok (.ifCond .eq 130, 3) := by decide +kernel
theorem dX7_layOrder_11 : decode cX7_layOrder 11 = .ok (.bipush (-10), 2) := by decide +kernel
theorem dX7_layOrder_13 : decode cX7_layOrder 13 = .ok (.istore_n 3, 1) := by decide +kernel
theorem dX7_layOrder_14 : decode cX7_layOrder 14 = .ok (.aload_n 0, 1) := by decide +kernel
theorem dX7_layOrder_15 : decode cX7_layOrder 15 = .ok (.getfield 7, 3) := by decide +kernel
theorem dX7_layOrder_18 : decode cX7_layOrder 18 = .ok (.iconst 0, 1) := by decide +kernel
theorem dX7_layOrder_19 : decode cX7_layOrder 19 = .ok (.iaload, 1) := by decide +kernel
theorem dX7_layOrder_20 : decode cX7_layOrder 20 = .ok (.iconst 1, 1) := by decide +kernel
theorem dX7_layOrder_21 : decode cX7_layOrder 21 = .ok (.isub, 1) := by decide +kernel
theorem dX7_layOrder_22 : decode cX7_layOrder 22 = .ok (.istore 4, 2) := by decide +kernel
theorem dX7_layOrder_24 : decode cX7_layOrder 24 = .ok (.iload 4, 2) := by decide +kernel
theorem dX7_layOrder_26 : decode cX7_layOrder 26 = .ok (.ifCond .lt 91, 3) := by decide +kernel
theorem dX7_layOrder_29 : decode cX7_layOrder 29 = .ok (.iload_n 1, 1) := by decide +kernel
theorem dX7_layOrder_30 : decode cX7_layOrder 30 = .ok (.iload 4, 2) := by decide +kernel
theorem dX7_layOrder_32 : decode cX7_layOrder 32 = .ok (.ishr, 1) := by decide +kernel
theorem dX7_layOrder_33 : decode cX7_layOrder 33 = .ok (.iconst 1, 1) := by decide +kernel
theorem dX7_layOrder_34 : decode cX7_layOrder 34 = .ok (.iand, 1) := by decide +kernel
theorem dX7_layOrder_35 : decode cX7_layOrder 35 = .ok (.iconst 1, 1) := by decide +kernel
theorem dX7_layOrder_36 : decode cX7_layOrder 36 = .ok (.if_icmp .ne 7, 3) := by decide +kernel
theorem dX7_layOrder_39 : decode cX7_layOrder 39 = .ok (.iconst 1, 1) := by decide +kernel
theorem dX7_layOrder_40 : decode cX7_layOrder 40 = .ok (.goto 4, 3) := by decide +kernel
theorem dX7_layOrder_43 : decode cX7_layOrder 43 = .ok (.iconst 0, 1) := by decide +kernel
theorem dX7_layOrder_44 : decode cX7_layOrder 44 = .ok (.istore 5, 2) := by decide +kernel
theorem dX7_layOrder_46 : decode cX7_layOrder 46 = .ok (.iconst 0, 1) := by decide +kernel
theorem dX7_layOrder_47 : decode cX7_layOrder 47 = .ok (.istore 6, 2) := by decide +kernel
theorem dX7_layOrder_49 : decode cX7_layOrder 49 = .ok (.iload 6, 2) := by decide +kernel
theorem dX7_layOrder_51 : decode cX7_layOrder 51 = .ok (.aload_n 0, 1) := by decide +kernel
theorem dX7_layOrder_52 : decode cX7_layOrder 52 = .ok (.getfield 7, 3) := by decide +kernel
theorem dX7_layOrder_55 : decode cX7_layOrder 55 = .ok (.iconst 0, 1) := by decide +kernel
theorem dX7_layOrder_56 : decode cX7_layOrder 56 = .ok (.iaload, 1) := by decide +kernel
theorem dX7_layOrder_57 : decode cX7_layOrder 57 = .ok (.if_icmp .ge 42, 3) := by decide +kernel
theorem dX7_layOrder_60 : decode cX7_layOrder 60 = .ok (.iload 5, 2) := by decide +kernel
theorem dX7_layOrder_62 : decode cX7_layOrder 62 = .ok (.ifCond .eq 28, 3) := by decide +kernel
theorem dX7_layOrder_65 : decode cX7_layOrder 65 = .ok (.iload_n 1, 1) := by decide +kernel
theorem dX7_layOrder_66 : decode cX7_layOrder 66 = .ok (.iload 6, 2) := by decide +kernel
theorem dX7_layOrder_68 : decode cX7_layOrder 68 = .ok (.ishr, 1) := by decide +kernel
theorem dX7_layOrder_69 : decode cX7_layOrder 69 = .ok (.iconst 1, 1) := by decide +kernel
theorem dX7_layOrder_70 : decode cX7_layOrder 70 = .ok (.iand, 1) := by decide +kernel
theorem dX7_layOrder_71 : decode cX7_layOrder 71 = .ok (.iconst 1, 1) := by decide +kernel
theorem dX7_layOrder_72 : decode cX7_layOrder 72 = .ok (.if_icmp .ne 14, 3) := by decide +kernel
theorem dX7_layOrder_75 : decode cX7_layOrder 75 = .ok (.aload_n 0, 1) := by decide +kernel
theorem dX7_layOrder_76 : decode cX7_layOrder 76 = .ok (.iload 4, 2) := by decide +kernel
theorem dX7_layOrder_78 : decode cX7_layOrder 78 = .ok (.iload 6, 2) := by decide +kernel
theorem dX7_layOrder_80 : decode cX7_layOrder 80 = .ok (.invokevirtual 112, 3) := by decide +kernel
theorem dX7_layOrder_83 : decode cX7_layOrder 83 = .ok (.ifCond .ne 7, 3) := by decide +kernel
theorem dX7_layOrder_86 : decode cX7_layOrder 86 = .ok (.iconst 1, 1) := by decide +kernel
theorem dX7_layOrder_87 : decode cX7_layOrder 87 = .ok (.goto 4, 3) := by decide +kernel
theorem dX7_layOrder_90 : decode cX7_layOrder 90 = .ok (.iconst 0, 1) := by decide +kernel
theorem dX7_layOrder_91 : decode cX7_layOrder 91 = .ok (.istore 5, 2) := by decide +kernel
theorem dX7_layOrder_93 : decode cX7_layOrder 93 = .ok (.iinc 6 1, 3) := by decide +kernel
theorem dX7_layOrder_96 : decode cX7_layOrder 96 = .ok (.goto (-47), 3) := by decide +kernel
theorem dX7_layOrder_99 : decode cX7_layOrder 99 = .ok (.iload 5, 2) := by decide +kernel
theorem dX7_layOrder_101 : decode cX7_layOrder 101 = .ok (.ifCond .eq 8, 3) := by decide +kernel
theorem dX7_layOrder_104 : decode cX7_layOrder 104 = .ok (.iload 4, 2) := by decide +kernel
theorem dX7_layOrder_106 : decode cX7_layOrder 106 = .ok (.goto 4, 3) := by decide +kernel
theorem dX7_layOrder_109 : decode cX7_layOrder 109 = .ok (.iload_n 3, 1) := by decide +kernel
theorem dX7_layOrder_110 : decode cX7_layOrder 110 = .ok (.istore_n 3, 1) := by decide +kernel
theorem dX7_layOrder_111 : decode cX7_layOrder 111 = .ok (.iinc 4 (-1), 3) := by decide +kernel
theorem dX7_layOrder_114 : decode cX7_layOrder 114 = .ok (.goto (-90), 3) := by decide +kernel
theorem dX7_layOrder_117 : decode cX7_layOrder 117 = .ok (.aload_n 0, 1) := by decide +kernel
theorem dX7_layOrder_118 : decode cX7_layOrder 118 = .ok (.getfield 26, 3) := by decide +kernel
theorem dX7_layOrder_121 : decode cX7_layOrder 121 = .ok (.iload_n 2, 1) := by decide +kernel
theorem dX7_layOrder_122 : decode cX7_layOrder 122 = .ok (.iload_n 3, 1) := by decide +kernel
theorem dX7_layOrder_123 : decode cX7_layOrder 123 = .ok (.iastore, 1) := by decide +kernel
theorem dX7_layOrder_124 : decode cX7_layOrder 124 = .ok (.iinc 2 1, 3) := by decide +kernel
theorem dX7_layOrder_127 : decode cX7_layOrder 127 = .ok (.iload_n 1, 1) := by decide +kernel
theorem dX7_layOrder_128 : decode cX7_layOrder 128 = .ok (.iconst 1, 1) := by decide +kernel
theorem dX7_layOrder_129 : decode cX7_layOrder 129 = .ok (.iload_n 3, 1) := by decide +kernel
theorem dX7_layOrder_130 : decode cX7_layOrder 130 = .ok (.ishl, 1) := by decide +kernel
theorem dX7_layOrder_131 : decode cX7_layOrder 131 = .ok (.iconst (-1), 1) := by decide +kernel
theorem dX7_layOrder_132 : decode cX7_layOrder 132 = .ok (.ixor, 1) := by decide +kernel
theorem dX7_layOrder_133 : decode cX7_layOrder 133 = .ok (.iand, 1) := by decide +kernel
theorem dX7_layOrder_134 : decode cX7_layOrder 134 = .ok (.istore_n 1, 1) := by decide +kernel
theorem dX7_layOrder_135 : decode cX7_layOrder 135 = .ok (.goto (-128), 3) := by decide +kernel
theorem dX7_layOrder_138 : decode cX7_layOrder 138 = .ok (.iload_n 2, 1) := by decide +kernel
theorem dX7_layOrder_139 : decode cX7_layOrder 139 = .ok (.ireturn, 1) := by decide +kernel
theorem dX7_rebuildOrder_0 : decode cX7_rebuildOrder 0 = .ok (.aload_n 0, 1) := by decide +kernel
theorem dX7_rebuildOrder_1 : decode cX7_rebuildOrder 1 = .ok (.invokevirtual 115, 3) := by decide +kernel
theorem dX7_rebuildOrder_4 : decode cX7_rebuildOrder 4 = .ok (.istore_n 2, 1) := by decide +kernel
theorem dX7_rebuildOrder_5 : decode cX7_rebuildOrder 5 = .ok (.iload_n 1, 1) := by decide +kernel
theorem dX7_rebuildOrder_6 : decode cX7_rebuildOrder 6 = .ok (.iconst (-1), 1) := by decide +kernel
theorem dX7_rebuildOrder_7 : decode cX7_rebuildOrder 7 = .ok (.if_icmp .ne 7, 3) := by decide +kernel
theorem dX7_rebuildOrder_10 : decode cX7_rebuildOrder 10 = .ok (.iload_n 2, 1) := by decide +kernel
theorem dX7_rebuildOrder_11 : decode cX7_rebuildOrder 11 = .ok (.goto 25, 3) := by decide +kernel
theorem dX7_rebuildOrder_14 : decode cX7_rebuildOrder 14 = .ok (.iload_n 1, 1) := by decide +kernel
theorem dX7_rebuildOrder_15 : decode cX7_rebuildOrder 15 = .ok (.iconst 0, 1) := by decide +kernel
theorem dX7_rebuildOrder_16 : decode cX7_rebuildOrder 16 = .ok (.iload_n 2, 1) := by decide +kernel
theorem dX7_rebuildOrder_17 : decode cX7_rebuildOrder 17 = .ok (.iconst 1, 1) := by decide +kernel
theorem dX7_rebuildOrder_18 : decode cX7_rebuildOrder 18 = .ok (.isub, 1) := by decide +kernel
theorem dX7_rebuildOrder_19 : decode cX7_rebuildOrder 19 = .ok (.invokestatic 41, 3) := by decide +kernel
theorem dX7_rebuildOrder_22 : decode cX7_rebuildOrder 22 = .ok (.ifCond .eq 12, 3) := by decide +kernel
theorem dX7_rebuildOrder_25 : decode cX7_rebuildOrder 25 = .ok (.aload_n 0, 1) := by decide +kernel
theorem dX7_rebuildOrder_26 : decode cX7_rebuildOrder 26 = .ok (.getfield 26, 3) := by decide +kernel
theorem dX7_rebuildOrder_29 : decode cX7_rebuildOrder 29 = .ok (.iload_n 1, 1) := by decide +kernel
theorem dX7_rebuildOrder_30 : decode cX7_rebuildOrder 30 = .ok (.iaload, 1) := by decide +kernel
theorem dX7_rebuildOrder_31 : decode cX7_rebuildOrder 31 = .ok (.goto 5, 3) := by decide +kernel
theorem dX7_rebuildOrder_34 : decode cX7_rebuildOrder 34 = .ok (.bipush (-10), 2) := by decide +kernel
theorem dX7_rebuildOrder_36 : decode cX7_rebuildOrder 36 = .ok (.ireturn, 1) := by decide +kernel
theorem dX7_rebuildTime_0 : decode cX7_rebuildTime 0 = .ok (.aload_n 0, 1) := by decide +kernel
theorem dX7_rebuildTime_1 : decode cX7_rebuildTime 1 = .ok (.invokevirtual 115, 3) := by decide +kernel
theorem dX7_rebuildTime_4 : decode cX7_rebuildTime 4 = .ok (.istore_n 1, 1) := by decide +kernel
theorem dX7_rebuildTime_5 : decode cX7_rebuildTime 5 = .ok (.iconst 0, 1) := by decide +kernel
theorem dX7_rebuildTime_6 : decode cX7_rebuildTime 6 = .ok (.istore_n 2, 1) := by decide +kernel
theorem dX7_rebuildTime_7 : decode cX7_rebuildTime 7 = .ok (.iconst 0, 1) := by decide +kernel
theorem dX7_rebuildTime_8 : decode cX7_rebuildTime 8 = .ok (.istore_n 3, 1) := by decide +kernel
theorem dX7_rebuildTime_9 : decode cX7_rebuildTime 9 = .ok (.iload_n 3, 1) := by decide +kernel
theorem dX7_rebuildTime_10 : decode cX7_rebuildTime 10 = .ok (.iload_n 1, 1) := by decide +kernel
theorem dX7_rebuildTime_11 : decode cX7_rebuildTime 11 = .ok (.if_icmp .ge 120, 3) := by decide +kernel
theorem dX7_rebuildTime_14 : decode cX7_rebuildTime 14 = .ok (.aload_n 0, 1) := by decide +kernel
theorem dX7_rebuildTime_15 : decode cX7_rebuildTime 15 = .ok (.getfield 26, 3) := by decide +kernel
theorem dX7_rebuildTime_18 : decode cX7_rebuildTime 18 = .ok (.iload_n 3, 1) := by decide +kernel
theorem dX7_rebuildTime_19 : decode cX7_rebuildTime 19 = .ok (.iaload, 1) := by decide +kernel
theorem dX7_rebuildTime_20 : decode cX7_rebuildTime 20 = .ok (.istore 4, 2) := by decide +kernel
theorem dX7_rebuildTime_22 : decode cX7_rebuildTime 22 = .ok (.iconst 0, 1) := by decide +kernel
theorem dX7_rebuildTime_23 : decode cX7_rebuildTime 23 = .ok (.istore 5, 2) := by decide +kernel
theorem dX7_rebuildTime_25 : decode cX7_rebuildTime 25 = .ok (.iconst 0, 1) := by decide +kernel
theorem dX7_rebuildTime_26 : decode cX7_rebuildTime 26 = .ok (.istore 6, 2) := by decide +kernel
theorem dX7_rebuildTime_28 : decode cX7_rebuildTime 28 = .ok (.iload 6, 2) := by decide +kernel
theorem dX7_rebuildTime_30 : decode cX7_rebuildTime 30 = .ok (.iload_n 3, 1) := by decide +kernel
theorem dX7_rebuildTime_31 : decode cX7_rebuildTime 31 = .ok (.if_icmp .ge 55, 3) := by decide +kernel
theorem dX7_rebuildTime_34 : decode cX7_rebuildTime 34 = .ok (.aload_n 0, 1) := by decide +kernel
theorem dX7_rebuildTime_35 : decode cX7_rebuildTime 35 = .ok (.getfield 26, 3) := by decide +kernel
theorem dX7_rebuildTime_38 : decode cX7_rebuildTime 38 = .ok (.iload 6, 2) := by decide +kernel
theorem dX7_rebuildTime_40 : decode cX7_rebuildTime 40 = .ok (.iaload, 1) := by decide +kernel
theorem dX7_rebuildTime_41 : decode cX7_rebuildTime 41 = .ok (.istore 7, 2) := by decide +kernel
theorem dX7_rebuildTime_43 : decode cX7_rebuildTime 43 = .ok (.aload_n 0, 1) := by decide +kernel
theorem dX7_rebuildTime_44 : decode cX7_rebuildTime 44 = .ok (.iload 4, 2) := by decide +kernel
theorem dX7_rebuildTime_46 : decode cX7_rebuildTime 46 = .ok (.iload 7, 2) := by decide +kernel
theorem dX7_rebuildTime_48 : decode cX7_rebuildTime 48 = .ok (.invokevirtual 112, 3) := by decide +kernel
theorem dX7_rebuildTime_51 : decode cX7_rebuildTime 51 = .ok (.ifCond .eq 25, 3) := by decide +kernel
theorem dX7_rebuildTime_54 : decode cX7_rebuildTime 54 = .ok (.aload_n 0, 1) := by decide +kernel
theorem dX7_rebuildTime_55 : decode cX7_rebuildTime 55 = .ok (.getfield 29, 3) := by decide +kernel
theorem dX7_rebuildTime_58 : decode cX7_rebuildTime 58 = .ok (.iload 7, 2) := by decide +kernel
theorem dX7_rebuildTime_60 : decode cX7_rebuildTime 60 = .ok (.iaload, 1) := by decide +kernel
theorem dX7_rebuildTime_61 : decode cX7_rebuildTime 61 = .ok (.iload 5, 2) := by decide +kernel
theorem dX7_rebuildTime_63 : decode cX7_rebuildTime 63 = .ok (.if_icmp .le 13, 3) := by decide +kernel
theorem dX7_rebuildTime_66 : decode cX7_rebuildTime 66 = .ok (.aload_n 0, 1) := by decide +kernel
theorem dX7_rebuildTime_67 : decode cX7_rebuildTime 67 = .ok (.getfield 29, 3) := by decide +kernel
theorem dX7_rebuildTime_70 : decode cX7_rebuildTime 70 = .ok (.iload 7, 2) := by decide +kernel
theorem dX7_rebuildTime_72 : decode cX7_rebuildTime 72 = .ok (.iaload, 1) := by decide +kernel
theorem dX7_rebuildTime_73 : decode cX7_rebuildTime 73 = .ok (.goto 5, 3) := by decide +kernel
theorem dX7_rebuildTime_76 : decode cX7_rebuildTime 76 = .ok (.iload 5, 2) := by decide +kernel
theorem dX7_rebuildTime_78 : decode cX7_rebuildTime 78 = .ok (.istore 5, 2) := by decide +kernel
theorem dX7_rebuildTime_80 : decode cX7_rebuildTime 80 = .ok (.iinc 6 1, 3) := by decide +kernel
theorem dX7_rebuildTime_83 : decode cX7_rebuildTime 83 = .ok (.goto (-55), 3) := by decide +kernel
theorem dX7_rebuildTime_86 : decode cX7_rebuildTime 86 = .ok (.aload_n 0, 1) := by decide +kernel
theorem dX7_rebuildTime_87 : decode cX7_rebuildTime 87 = .ok (.getfield 29, 3) := by decide +kernel
theorem dX7_rebuildTime_90 : decode cX7_rebuildTime 90 = .ok (.iload 4, 2) := by decide +kernel
theorem dX7_rebuildTime_92 : decode cX7_rebuildTime 92 = .ok (.iload 5, 2) := by decide +kernel
theorem dX7_rebuildTime_94 : decode cX7_rebuildTime 94 = .ok (.aload_n 0, 1) := by decide +kernel
theorem dX7_rebuildTime_95 : decode cX7_rebuildTime 95 = .ok (.iload 4, 2) := by decide +kernel
theorem dX7_rebuildTime_97 : decode cX7_rebuildTime 97 = .ok (.invokevirtual 106, 3) := by decide +kernel
theorem dX7_rebuildTime_100 : decode cX7_rebuildTime 100 = .ok (.iadd, 1) := by decide +kernel
theorem dX7_rebuildTime_101 : decode cX7_rebuildTime 101 = .ok (.iastore, 1) := by decide +kernel
theorem dX7_rebuildTime_102 : decode cX7_rebuildTime 102 = .ok (.aload_n 0, 1) := by decide +kernel
theorem dX7_rebuildTime_103 : decode cX7_rebuildTime 103 = .ok (.getfield 29, 3) := by decide +kernel
theorem dX7_rebuildTime_106 : decode cX7_rebuildTime 106 = .ok (.iload 4, 2) := by decide +kernel
theorem dX7_rebuildTime_108 : decode cX7_rebuildTime 108 = .ok (.iaload, 1) := by decide +kernel
theorem dX7_rebuildTime_109 : decode cX7_rebuildTime 109 = .ok (.iload_n 2, 1) := by decide +kernel
theorem dX7_rebuildTime_110 : decode cX7_rebuildTime 110 = .ok (.if_icmp .le 13, 3) := by decide +kernel
theorem dX7_rebuildTime_113 : decode cX7_rebuildTime 113 = .ok (.aload_n 0, 1) := by decide +kernel
theorem dX7_rebuildTime_114 : decode cX7_rebuildTime 114 = .ok (.getfield 29, 3) := by decide +kernel
theorem dX7_rebuildTime_117 : decode cX7_rebuildTime 117 = .ok (.iload 4, 2) := by decide +kernel
theorem dX7_rebuildTime_119 : decode cX7_rebuildTime 119 = .ok (.iaload, 1) := by decide +kernel
theorem dX7_rebuildTime_120 : decode cX7_rebuildTime 120 = .ok (.goto 4, 3) := by decide +kernel
theorem dX7_rebuildTime_123 : decode cX7_rebuildTime 123 = .ok (.iload_n 2, 1) := by decide +kernel
theorem dX7_rebuildTime_124 : decode cX7_rebuildTime 124 = .ok (.istore_n 2, 1) := by decide +kernel
theorem dX7_rebuildTime_125 : decode cX7_rebuildTime 125 = .ok (.iinc 3 1, 3) := by decide +kernel
theorem dX7_rebuildTime_128 : decode cX7_rebuildTime 128 = .ok (.goto (-119), 3) := by decide +kernel
theorem dX7_rebuildTime_131 : decode cX7_rebuildTime 131 = .ok (.iload_n 2, 1) := by decide +kernel
theorem dX7_rebuildTime_132 : decode cX7_rebuildTime 132 = .ok (.ireturn, 1) := by decide +kernel
theorem dX7_layShards_0 : decode cX7_layShards 0 = .ok (.aload_n 0, 1) := by decide +kernel
theorem dX7_layShards_1 : decode cX7_layShards 1 = .ok (.invokevirtual 118, 3) := by decide +kernel
theorem dX7_layShards_4 : decode cX7_layShards 4 = .ok (.istore_n 2, 1) := by decide +kernel
theorem dX7_layShards_5 : decode cX7_layShards 5 = .ok (.iconst 0, 1) := by decide +kernel
theorem dX7_layShards_6 : decode cX7_layShards 6 = .ok (.istore_n 3, 1) := by decide +kernel
theorem dX7_layShards_7 : decode cX7_layShards 7 = .ok (.iload_n 3, 1) := by decide +kernel
theorem dX7_layShards_8 : decode cX7_layShards 8 = .ok (.iconst 4, 1) := by decide +kernel
theorem dX7_layShards_9 : decode cX7_layShards 9 = .ok (.if_icmp .ge 16, 3) := by decide +kernel
theorem dX7_layShards_12 : decode cX7_layShards 12 = .ok (.aload_n 0, 1) := by decide +kernel
theorem dX7_layShards_13 : decode cX7_layShards 13 = .ok (.getfield 32, 3) := by decide +kernel
theorem dX7_layShards_16 : decode cX7_layShards 16 = .ok (.iload_n 3, 1) := by decide +kernel
theorem dX7_layShards_17 : decode cX7_layShards 17 = .ok (.iconst 0, 1) := by decide +kernel
theorem dX7_layShards_18 : decode cX7_layShards 18 = .ok (.iastore, 1) := by decide +kernel
theorem dX7_layShards_19 : decode cX7_layShards 19 = .ok (.iinc 3 1, 3) := by decide +kernel
theorem dX7_layShards_22 : decode cX7_layShards 22 = .ok (.goto (-15), 3) := by decide +kernel
theorem dX7_layShards_25 : decode cX7_layShards 25 = .ok (.iconst 0, 1) := by decide +kernel
theorem dX7_layShards_26 : decode cX7_layShards 26 = .ok (.istore_n 3, 1) := by decide +kernel
theorem dX7_layShards_27 : decode cX7_layShards 27 = .ok (.iload_n 3, 1) := by decide +kernel
theorem dX7_layShards_28 : decode cX7_layShards 28 = .ok (.bipush 20, 2) := by decide +kernel
theorem dX7_layShards_30 : decode cX7_layShards 30 = .ok (.if_icmp .ge 17, 3) := by decide +kernel
theorem dX7_layShards_33 : decode cX7_layShards 33 = .ok (.aload_n 0, 1) := by decide +kernel
theorem dX7_layShards_34 : decode cX7_layShards 34 = .ok (.getfield 35, 3) := by decide +kernel
theorem dX7_layShards_37 : decode cX7_layShards 37 = .ok (.iload_n 3, 1) := by decide +kernel
theorem dX7_layShards_38 : decode cX7_layShards 38 = .ok (.bipush (-10), 2) := by decide +kernel
theorem dX7_layShards_40 : decode cX7_layShards 40 = .ok (.iastore, 1) := by decide +kernel
theorem dX7_layShards_41 : decode cX7_layShards 41 = .ok (.iinc 3 1, 3) := by decide +kernel
theorem dX7_layShards_44 : decode cX7_layShards 44 = .ok (.goto (-17), 3) := by decide +kernel
theorem dX7_layShards_47 : decode cX7_layShards 47 = .ok (.iload_n 2, 1) := by decide +kernel
theorem dX7_layShards_48 : decode cX7_layShards 48 = .ok (.ifCond .eq 151, 3) := by decide +kernel
theorem dX7_layShards_51 : decode cX7_layShards 51 = .ok (.bipush (-10), 2) := by decide +kernel
theorem dX7_layShards_53 : decode cX7_layShards 53 = .ok (.istore_n 3, 1) := by decide +kernel
theorem dX7_layShards_54 : decode cX7_layShards 54 = .ok (.iconst 0, 1) := by decide +kernel
theorem dX7_layShards_55 : decode cX7_layShards 55 = .ok (.istore 4, 2) := by decide +kernel
theorem dX7_layShards_57 : decode cX7_layShards 57 = .ok (.iload 4, 2) := by decide +kernel
theorem dX7_layShards_59 : decode cX7_layShards 59 = .ok (.aload_n 0, 1) := by decide +kernel
theorem dX7_layShards_60 : decode cX7_layShards 60 = .ok (.getfield 7, 3) := by decide +kernel
theorem dX7_layShards_63 : decode cX7_layShards 63 = .ok (.iconst 0, 1) := by decide +kernel
theorem dX7_layShards_64 : decode cX7_layShards 64 = .ok (.iaload, 1) := by decide +kernel
theorem dX7_layShards_65 : decode cX7_layShards 65 = .ok (.if_icmp .ge 56, 3) := by decide +kernel
theorem dX7_layShards_68 : decode cX7_layShards 68 = .ok (.iload_n 2, 1) := by decide +kernel
theorem dX7_layShards_69 : decode cX7_layShards 69 = .ok (.iload 4, 2) := by decide +kernel
theorem dX7_layShards_71 : decode cX7_layShards 71 = .ok (.ishr, 1) := by decide +kernel
theorem dX7_layShards_72 : decode cX7_layShards 72 = .ok (.iconst 1, 1) := by decide +kernel
theorem dX7_layShards_73 : decode cX7_layShards 73 = .ok (.iand, 1) := by decide +kernel
theorem dX7_layShards_74 : decode cX7_layShards 74 = .ok (.iconst 1, 1) := by decide +kernel
theorem dX7_layShards_75 : decode cX7_layShards 75 = .ok (.if_icmp .ne 7, 3) := by decide +kernel
theorem dX7_layShards_78 : decode cX7_layShards 78 = .ok (.iconst 1, 1) := by decide +kernel
theorem dX7_layShards_79 : decode cX7_layShards 79 = .ok (.goto 4, 3) := by decide +kernel
theorem dX7_layShards_82 : decode cX7_layShards 82 = .ok (.iconst 0, 1) := by decide +kernel
theorem dX7_layShards_83 : decode cX7_layShards 83 = .ok (.istore 5, 2) := by decide +kernel
theorem dX7_layShards_85 : decode cX7_layShards 85 = .ok (.iload 5, 2) := by decide +kernel
theorem dX7_layShards_87 : decode cX7_layShards 87 = .ok (.ifCond .eq 26, 3) := by decide +kernel
theorem dX7_layShards_90 : decode cX7_layShards 90 = .ok (.iload_n 3, 1) := by decide +kernel
theorem dX7_layShards_91 : decode cX7_layShards 91 = .ok (.ifCond .lt 17, 3) := by decide +kernel
theorem dX7_layShards_94 : decode cX7_layShards 94 = .ok (.aload_n 0, 1) := by decide +kernel
theorem dX7_layShards_95 : decode cX7_layShards 95 = .ok (.iload 4, 2) := by decide +kernel
theorem dX7_layShards_97 : decode cX7_layShards 97 = .ok (.invokevirtual 106, 3) := by decide +kernel
theorem dX7_layShards_100 : decode cX7_layShards 100 = .ok (.aload_n 0, 1) := by decide +kernel
theorem dX7_layShards_101 : decode cX7_layShards 101 = .ok (.iload_n 3, 1) := by decide +kernel
theorem dX7_layShards_102 : decode cX7_layShards 102 = .ok (.invokevirtual 106, 3) := by decide +kernel
theorem dX7_layShards_105 : decode cX7_layShards 105 = .ok (.if_icmp .le 8, 3) := by decide +kernel
theorem dX7_layShards_108 : decode cX7_layShards 108 = .ok (.iload 4, 2) := by decide +kernel
theorem dX7_layShards_110 : decode cX7_layShards 110 = .ok (.goto 4, 3) := by decide +kernel
theorem dX7_layShards_113 : decode cX7_layShards 113 = .ok (.iload_n 3, 1) := by decide +kernel
theorem dX7_layShards_114 : decode cX7_layShards 114 = .ok (.istore_n 3, 1) := by decide +kernel
theorem dX7_layShards_115 : decode cX7_layShards 115 = .ok (.iinc 4 1, 3) := by decide +kernel
theorem dX7_layShards_118 : decode cX7_layShards 118 = .ok (.goto (-61), 3) := by decide +kernel
theorem dX7_layShards_121 : decode cX7_layShards 121 = .ok (.iconst 0, 1) := by decide +kernel
theorem dX7_layShards_122 : decode cX7_layShards 122 = .ok (.istore 4, 2) := by decide +kernel
theorem dX7_layShards_124 : decode cX7_layShards 124 = .ok (.iconst 1, 1) := by decide +kernel
theorem dX7_layShards_125 : decode cX7_layShards 125 = .ok (.istore 5, 2) := by decide +kernel
theorem dX7_layShards_127 : decode cX7_layShards 127 = .ok (.iload 5, 2) := by decide +kernel
theorem dX7_layShards_129 : decode cX7_layShards 129 = .ok (.iload_n 1, 1) := by decide +kernel
theorem dX7_layShards_130 : decode cX7_layShards 130 = .ok (.if_icmp .ge 35, 3) := by decide +kernel
theorem dX7_layShards_133 : decode cX7_layShards 133 = .ok (.aload_n 0, 1) := by decide +kernel
theorem dX7_layShards_134 : decode cX7_layShards 134 = .ok (.getfield 32, 3) := by decide +kernel
theorem dX7_layShards_137 : decode cX7_layShards 137 = .ok (.iload 5, 2) := by decide +kernel
theorem dX7_layShards_139 : decode cX7_layShards 139 = .ok (.iaload, 1) := by decide +kernel
theorem dX7_layShards_140 : decode cX7_layShards 140 = .ok (.aload_n 0, 1) := by decide +kernel
theorem dX7_layShards_141 : decode cX7_layShards 141 = .ok (.getfield 32, 3) := by decide +kernel
theorem dX7_layShards_144 : decode cX7_layShards 144 = .ok (.iload 4, 2) := by decide +kernel
theorem dX7_layShards_146 : decode cX7_layShards 146 = .ok (.iaload, 1) := by decide +kernel
theorem dX7_layShards_147 : decode cX7_layShards 147 = .ok (.if_icmp .ge 8, 3) := by decide +kernel
theorem dX7_layShards_150 : decode cX7_layShards 150 = .ok (.iload 5, 2) := by decide +kernel
theorem dX7_layShards_152 : decode cX7_layShards 152 = .ok (.goto 5, 3) := by decide +kernel
theorem dX7_layShards_155 : decode cX7_layShards 155 = .ok (.iload 4, 2) := by decide +kernel
theorem dX7_layShards_157 : decode cX7_layShards 157 = .ok (.istore 4, 2) := by decide +kernel
theorem dX7_layShards_159 : decode cX7_layShards 159 = .ok (.iinc 5 1, 3) := by decide +kernel
theorem dX7_layShards_162 : decode cX7_layShards 162 = .ok (.goto (-35), 3) := by decide +kernel
theorem dX7_layShards_165 : decode cX7_layShards 165 = .ok (.aload_n 0, 1) := by decide +kernel
theorem dX7_layShards_166 : decode cX7_layShards 166 = .ok (.getfield 35, 3) := by decide +kernel
theorem dX7_layShards_169 : decode cX7_layShards 169 = .ok (.iload_n 3, 1) := by decide +kernel
theorem dX7_layShards_170 : decode cX7_layShards 170 = .ok (.iload 4, 2) := by decide +kernel
theorem dX7_layShards_172 : decode cX7_layShards 172 = .ok (.iastore, 1) := by decide +kernel
theorem dX7_layShards_173 : decode cX7_layShards 173 = .ok (.aload_n 0, 1) := by decide +kernel
theorem dX7_layShards_174 : decode cX7_layShards 174 = .ok (.getfield 32, 3) := by decide +kernel
theorem dX7_layShards_177 : decode cX7_layShards 177 = .ok (.iload 4, 2) := by decide +kernel
theorem dX7_layShards_179 : decode cX7_layShards 179 = .ok (.dup2, 1) := by decide +kernel
theorem dX7_layShards_180 : decode cX7_layShards 180 = .ok (.iaload, 1) := by decide +kernel
theorem dX7_layShards_181 : decode cX7_layShards 181 = .ok (.aload_n 0, 1) := by decide +kernel
theorem dX7_layShards_182 : decode cX7_layShards 182 = .ok (.iload_n 3, 1) := by decide +kernel
theorem dX7_layShards_183 : decode cX7_layShards 183 = .ok (.invokevirtual 106, 3) := by decide +kernel
theorem dX7_layShards_186 : decode cX7_layShards 186 = .ok (.iadd, 1) := by decide +kernel
theorem dX7_layShards_187 : decode cX7_layShards 187 = .ok (.iastore, 1) := by decide +kernel
theorem dX7_layShards_188 : decode cX7_layShards 188 = .ok (.iload_n 2, 1) := by decide +kernel
theorem dX7_layShards_189 : decode cX7_layShards 189 = .ok (.iconst 1, 1) := by decide +kernel
theorem dX7_layShards_190 : decode cX7_layShards 190 = .ok (.iload_n 3, 1) := by decide +kernel
theorem dX7_layShards_191 : decode cX7_layShards 191 = .ok (.ishl, 1) := by decide +kernel
theorem dX7_layShards_192 : decode cX7_layShards 192 = .ok (.iconst (-1), 1) := by decide +kernel
theorem dX7_layShards_193 : decode cX7_layShards 193 = .ok (.ixor, 1) := by decide +kernel
theorem dX7_layShards_194 : decode cX7_layShards 194 = .ok (.iand, 1) := by decide +kernel
theorem dX7_layShards_195 : decode cX7_layShards 195 = .ok (.istore_n 2, 1) := by decide +kernel
theorem dX7_layShards_196 : decode cX7_layShards 196 = .ok (.goto (-149), 3) := by decide +kernel
theorem dX7_layShards_199 : decode cX7_layShards 199 = .ok (.return_, 1) := by decide +kernel
theorem dX7_areShards_0 : decode cX7_areShards 0 = .ok (.iload_n 0, 1) := by decide +kernel
theorem dX7_areShards_1 : decode cX7_areShards 1 = .ok (.iconst 1, 1) := by decide +kernel
theorem dX7_areShards_2 : decode cX7_areShards 2 = .ok (.iconst 4, 1) := by decide +kernel
theorem dX7_areShards_3 : decode cX7_areShards 3 = .ok (.invokestatic 41, 3) := by decide +kernel
theorem dX7_areShards_6 : decode cX7_areShards 6 = .ok (.ireturn, 1) := by decide +kernel
theorem dX7_shardOf_0 : decode cX7_shardOf 0 = .ok (.aload_n 0, 1) := by decide +kernel
theorem dX7_shardOf_1 : decode cX7_shardOf 1 = .ok (.iload_n 1, 1) := by decide +kernel
theorem dX7_shardOf_2 : decode cX7_shardOf 2 = .ok (.invokevirtual 57, 3) := by decide +kernel
theorem dX7_shardOf_5 : decode cX7_shardOf 5 = .ok (.ifCond .ne 5, 3) := by decide +kernel
theorem dX7_shardOf_8 : decode cX7_shardOf 8 = .ok (.iconst (-1), 1) := by decide +kernel
theorem dX7_shardOf_9 : decode cX7_shardOf 9 = .ok (.ireturn, 1) := by decide +kernel
theorem dX7_shardOf_10 : decode cX7_shardOf 10 = .ok (.iload_n 2, 1) := by decide +kernel
theorem dX7_shardOf_11 : decode cX7_shardOf 11 = .ok (.invokestatic 121, 3) := by decide +kernel
theorem dX7_shardOf_14 : decode cX7_shardOf 14 = .ok (.ifCond .ne 6, 3) := by decide +kernel
theorem dX7_shardOf_17 : decode cX7_shardOf 17 = .ok (.bipush (-3), 2) := by decide +kernel
theorem dX7_shardOf_19 : decode cX7_shardOf 19 = .ok (.ireturn, 1) := by decide +kernel
theorem dX7_shardOf_20 : decode cX7_shardOf 20 = .ok (.aload_n 0, 1) := by decide +kernel
theorem dX7_shardOf_21 : decode cX7_shardOf 21 = .ok (.iload_n 2, 1) := by decide +kernel
theorem dX7_shardOf_22 : decode cX7_shardOf 22 = .ok (.invokevirtual 124, 3) := by decide +kernel
theorem dX7_shardOf_25 : decode cX7_shardOf 25 = .ok (.aload_n 0, 1) := by decide +kernel
theorem dX7_shardOf_26 : decode cX7_shardOf 26 = .ok (.getfield 35, 3) := by decide +kernel
theorem dX7_shardOf_29 : decode cX7_shardOf 29 = .ok (.iload_n 1, 1) := by decide +kernel
theorem dX7_shardOf_30 : decode cX7_shardOf 30 = .ok (.iaload, 1) := by decide +kernel
theorem dX7_shardOf_31 : decode cX7_shardOf 31 = .ok (.ireturn, 1) := by decide +kernel
theorem dX7_shardLoad_0 : decode cX7_shardLoad 0 = .ok (.iload_n 1, 1) := by decide +kernel
theorem dX7_shardLoad_1 : decode cX7_shardLoad 1 = .ok (.invokestatic 121, 3) := by decide +kernel
theorem dX7_shardLoad_4 : decode cX7_shardLoad 4 = .ok (.ifCond .eq 14, 3) := by decide +kernel
theorem dX7_shardLoad_7 : decode cX7_shardLoad 7 = .ok (.iload_n 2, 1) := by decide +kernel
theorem dX7_shardLoad_8 : decode cX7_shardLoad 8 = .ok (.iconst 0, 1) := by decide +kernel
theorem dX7_shardLoad_9 : decode cX7_shardLoad 9 = .ok (.iload_n 1, 1) := by decide +kernel
theorem dX7_shardLoad_10 : decode cX7_shardLoad 10 = .ok (.iconst 1, 1) := by decide +kernel
theorem dX7_shardLoad_11 : decode cX7_shardLoad 11 = .ok (.isub, 1) := by decide +kernel
theorem dX7_shardLoad_12 : decode cX7_shardLoad 12 = .ok (.invokestatic 41, 3) := by decide +kernel
theorem dX7_shardLoad_15 : decode cX7_shardLoad 15 = .ok (.ifCond .ne 6, 3) := by decide +kernel
theorem dX7_shardLoad_18 : decode cX7_shardLoad 18 = .ok (.bipush (-3), 2) := by decide +kernel
theorem dX7_shardLoad_20 : decode cX7_shardLoad 20 = .ok (.ireturn, 1) := by decide +kernel
theorem dX7_shardLoad_21 : decode cX7_shardLoad 21 = .ok (.aload_n 0, 1) := by decide +kernel
theorem dX7_shardLoad_22 : decode cX7_shardLoad 22 = .ok (.iload_n 1, 1) := by decide +kernel
theorem dX7_shardLoad_23 : decode cX7_shardLoad 23 = .ok (.invokevirtual 124, 3) := by decide +kernel
theorem dX7_shardLoad_26 : decode cX7_shardLoad 26 = .ok (.aload_n 0, 1) := by decide +kernel
theorem dX7_shardLoad_27 : decode cX7_shardLoad 27 = .ok (.getfield 32, 3) := by decide +kernel
theorem dX7_shardLoad_30 : decode cX7_shardLoad 30 = .ok (.iload_n 2, 1) := by decide +kernel
theorem dX7_shardLoad_31 : decode cX7_shardLoad 31 = .ok (.iaload, 1) := by decide +kernel
theorem dX7_shardLoad_32 : decode cX7_shardLoad 32 = .ok (.ireturn, 1) := by decide +kernel
theorem dX7_greatestBy_0 : decode cX7_greatestBy 0 = .ok (.iconst 0, 1) := by decide +kernel
theorem dX7_greatestBy_1 : decode cX7_greatestBy 1 = .ok (.istore 4, 2) := by decide +kernel
theorem dX7_greatestBy_3 : decode cX7_greatestBy 3 = .ok (.iload 4, 2) := by decide +kernel
theorem dX7_greatestBy_5 : decode cX7_greatestBy 5 = .ok (.iconst 4, 1) := by decide +kernel
theorem dX7_greatestBy_6 : decode cX7_greatestBy 6 = .ok (.if_icmp .ge 17, 3) := by decide +kernel
theorem dX7_greatestBy_9 : decode cX7_greatestBy 9 = .ok (.aload_n 0, 1) := by decide +kernel
theorem dX7_greatestBy_10 : decode cX7_greatestBy 10 = .ok (.getfield 32, 3) := by decide +kernel
theorem dX7_greatestBy_13 : decode cX7_greatestBy 13 = .ok (.iload 4, 2) := by decide +kernel
theorem dX7_greatestBy_15 : decode cX7_greatestBy 15 = .ok (.iconst 0, 1) := by decide +kernel
theorem dX7_greatestBy_16 : decode cX7_greatestBy 16 = .ok (.iastore, 1) := by decide +kernel
theorem dX7_greatestBy_17 : decode cX7_greatestBy 17 = .ok (.iinc 4 1, 3) := by decide +kernel
theorem dX7_greatestBy_20 : decode cX7_greatestBy 20 = .ok (.goto (-17), 3) := by decide +kernel
theorem dX7_greatestBy_23 : decode cX7_greatestBy 23 = .ok (.iload_n 1, 1) := by decide +kernel
theorem dX7_greatestBy_24 : decode cX7_greatestBy 24 = .ok (.istore 4, 2) := by decide +kernel
theorem dX7_greatestBy_26 : decode cX7_greatestBy 26 = .ok (.iconst 0, 1) := by decide +kernel
theorem dX7_greatestBy_27 : decode cX7_greatestBy 27 = .ok (.istore 5, 2) := by decide +kernel
theorem dX7_greatestBy_29 : decode cX7_greatestBy 29 = .ok (.iload 5, 2) := by decide +kernel
theorem dX7_greatestBy_31 : decode cX7_greatestBy 31 = .ok (.iload_n 2, 1) := by decide +kernel
theorem dX7_greatestBy_32 : decode cX7_greatestBy 32 = .ok (.if_icmp .ge 34, 3) := by decide +kernel
theorem dX7_greatestBy_35 : decode cX7_greatestBy 35 = .ok (.aload_n 0, 1) := by decide +kernel
theorem dX7_greatestBy_36 : decode cX7_greatestBy 36 = .ok (.getfield 32, 3) := by decide +kernel
theorem dX7_greatestBy_39 : decode cX7_greatestBy 39 = .ok (.iload 4, 2) := by decide +kernel
theorem dX7_greatestBy_41 : decode cX7_greatestBy 41 = .ok (.iload_n 3, 1) := by decide +kernel
theorem dX7_greatestBy_42 : decode cX7_greatestBy 42 = .ok (.irem, 1) := by decide +kernel
theorem dX7_greatestBy_43 : decode cX7_greatestBy 43 = .ok (.dup2, 1) := by decide +kernel
theorem dX7_greatestBy_44 : decode cX7_greatestBy 44 = .ok (.iaload, 1) := by decide +kernel
theorem dX7_greatestBy_45 : decode cX7_greatestBy 45 = .ok (.aload_n 0, 1) := by decide +kernel
theorem dX7_greatestBy_46 : decode cX7_greatestBy 46 = .ok (.getfield 38, 3) := by decide +kernel
theorem dX7_greatestBy_49 : decode cX7_greatestBy 49 = .ok (.iload 5, 2) := by decide +kernel
theorem dX7_greatestBy_51 : decode cX7_greatestBy 51 = .ok (.iaload, 1) := by decide +kernel
theorem dX7_greatestBy_52 : decode cX7_greatestBy 52 = .ok (.iadd, 1) := by decide +kernel
theorem dX7_greatestBy_53 : decode cX7_greatestBy 53 = .ok (.iastore, 1) := by decide +kernel
theorem dX7_greatestBy_54 : decode cX7_greatestBy 54 = .ok (.iload 4, 2) := by decide +kernel
theorem dX7_greatestBy_56 : decode cX7_greatestBy 56 = .ok (.iload_n 3, 1) := by decide +kernel
theorem dX7_greatestBy_57 : decode cX7_greatestBy 57 = .ok (.idiv, 1) := by decide +kernel
theorem dX7_greatestBy_58 : decode cX7_greatestBy 58 = .ok (.istore 4, 2) := by decide +kernel
theorem dX7_greatestBy_60 : decode cX7_greatestBy 60 = .ok (.iinc 5 1, 3) := by decide +kernel
theorem dX7_greatestBy_63 : decode cX7_greatestBy 63 = .ok (.goto (-34), 3) := by decide +kernel
theorem dX7_greatestBy_66 : decode cX7_greatestBy 66 = .ok (.iconst 0, 1) := by decide +kernel
theorem dX7_greatestBy_67 : decode cX7_greatestBy 67 = .ok (.istore 5, 2) := by decide +kernel
theorem dX7_greatestBy_69 : decode cX7_greatestBy 69 = .ok (.iconst 0, 1) := by decide +kernel
theorem dX7_greatestBy_70 : decode cX7_greatestBy 70 = .ok (.istore 6, 2) := by decide +kernel
theorem dX7_greatestBy_72 : decode cX7_greatestBy 72 = .ok (.iload 6, 2) := by decide +kernel
theorem dX7_greatestBy_74 : decode cX7_greatestBy 74 = .ok (.iload_n 3, 1) := by decide +kernel
theorem dX7_greatestBy_75 : decode cX7_greatestBy 75 = .ok (.if_icmp .ge 35, 3) := by decide +kernel
theorem dX7_greatestBy_78 : decode cX7_greatestBy 78 = .ok (.aload_n 0, 1) := by decide +kernel
theorem dX7_greatestBy_79 : decode cX7_greatestBy 79 = .ok (.getfield 32, 3) := by decide +kernel
theorem dX7_greatestBy_82 : decode cX7_greatestBy 82 = .ok (.iload 6, 2) := by decide +kernel
theorem dX7_greatestBy_84 : decode cX7_greatestBy 84 = .ok (.iaload, 1) := by decide +kernel
theorem dX7_greatestBy_85 : decode cX7_greatestBy 85 = .ok (.iload 5, 2) := by decide +kernel
theorem dX7_greatestBy_87 : decode cX7_greatestBy 87 = .ok (.if_icmp .le 13, 3) := by decide +kernel
theorem dX7_greatestBy_90 : decode cX7_greatestBy 90 = .ok (.aload_n 0, 1) := by decide +kernel
theorem dX7_greatestBy_91 : decode cX7_greatestBy 91 = .ok (.getfield 32, 3) := by decide +kernel
theorem dX7_greatestBy_94 : decode cX7_greatestBy 94 = .ok (.iload 6, 2) := by decide +kernel
theorem dX7_greatestBy_96 : decode cX7_greatestBy 96 = .ok (.iaload, 1) := by decide +kernel
theorem dX7_greatestBy_97 : decode cX7_greatestBy 97 = .ok (.goto 5, 3) := by decide +kernel
theorem dX7_greatestBy_100 : decode cX7_greatestBy 100 = .ok (.iload 5, 2) := by decide +kernel
theorem dX7_greatestBy_102 : decode cX7_greatestBy 102 = .ok (.istore 5, 2) := by decide +kernel
theorem dX7_greatestBy_104 : decode cX7_greatestBy 104 = .ok (.iinc 6 1, 3) := by decide +kernel
theorem dX7_greatestBy_107 : decode cX7_greatestBy 107 = .ok (.goto (-35), 3) := by decide +kernel
theorem dX7_greatestBy_110 : decode cX7_greatestBy 110 = .ok (.iload 5, 2) := by decide +kernel
theorem dX7_greatestBy_112 : decode cX7_greatestBy 112 = .ok (.ireturn, 1) := by decide +kernel
theorem dX7_bestGreatestLoad_0 : decode cX7_bestGreatestLoad 0 = .ok (.iload_n 1, 1) := by decide +kernel
theorem dX7_bestGreatestLoad_1 : decode cX7_bestGreatestLoad 1 = .ok (.invokestatic 121, 3) := by decide +kernel
theorem dX7_bestGreatestLoad_4 : decode cX7_bestGreatestLoad 4 = .ok (.ifCond .ne 6, 3) := by decide +kernel
theorem dX7_bestGreatestLoad_7 : decode cX7_bestGreatestLoad 7 = .ok (.bipush (-3), 2) := by decide +kernel
theorem dX7_bestGreatestLoad_9 : decode cX7_bestGreatestLoad 9 = .ok (.ireturn, 1) := by decide +kernel
theorem dX7_bestGreatestLoad_10 : decode cX7_bestGreatestLoad 10 = .ok (.aload_n 0, 1) := by decide +kernel
theorem dX7_bestGreatestLoad_11 : decode cX7_bestGreatestLoad 11 = .ok (.invokevirtual 118, 3) := by decide +kernel
theorem dX7_bestGreatestLoad_14 : decode cX7_bestGreatestLoad 14 = .ok (.istore_n 2, 1) := by decide +kernel
theorem dX7_bestGreatestLoad_15 : decode cX7_bestGreatestLoad 15 = .ok (.iconst 0, 1) := by decide +kernel
theorem dX7_bestGreatestLoad_16 : decode cX7_bestGreatestLoad 16 = .ok (.istore_n 3, 1) := by decide +kernel
theorem dX7_bestGreatestLoad_17 : decode cX7_bestGreatestLoad 17 = .ok (.iconst 1, 1) := by decide +kernel
theorem dX7_bestGreatestLoad_18 : decode cX7_bestGreatestLoad 18 = .ok (.istore 4, 2) := by decide +kernel
theorem dX7_bestGreatestLoad_20 : decode cX7_bestGreatestLoad 20 = .ok (.iconst 0, 1) := by decide +kernel
theorem dX7_bestGreatestLoad_21 : decode cX7_bestGreatestLoad 21 = .ok (.istore 5, 2) := by decide +kernel
theorem dX7_bestGreatestLoad_23 : decode cX7_bestGreatestLoad 23 = .ok (.iload 5, 2) := by decide +kernel
theorem dX7_bestGreatestLoad_25 : decode cX7_bestGreatestLoad 25 = .ok (.aload_n 0, 1) := by decide +kernel
theorem dX7_bestGreatestLoad_26 : decode cX7_bestGreatestLoad 26 = .ok (.getfield 7, 3) := by decide +kernel
theorem dX7_bestGreatestLoad_29 : decode cX7_bestGreatestLoad 29 = .ok (.iconst 0, 1) := by decide +kernel
theorem dX7_bestGreatestLoad_30 : decode cX7_bestGreatestLoad 30 = .ok (.iaload, 1) := by decide +kernel
theorem dX7_bestGreatestLoad_31 : decode cX7_bestGreatestLoad 31 = .ok (.if_icmp .ge 40, 3) := by decide +kernel
theorem dX7_bestGreatestLoad_34 : decode cX7_bestGreatestLoad 34 = .ok (.iload_n 2, 1) := by decide +kernel
theorem dX7_bestGreatestLoad_35 : decode cX7_bestGreatestLoad 35 = .ok (.iload 5, 2) := by decide +kernel
theorem dX7_bestGreatestLoad_37 : decode cX7_bestGreatestLoad 37 = .ok (.ishr, 1) := by decide +kernel
theorem dX7_bestGreatestLoad_38 : decode cX7_bestGreatestLoad 38 = .ok (.iconst 1, 1) := by decide +kernel
theorem dX7_bestGreatestLoad_39 : decode cX7_bestGreatestLoad 39 = .ok (.iand, 1) := by decide +kernel
theorem dX7_bestGreatestLoad_40 : decode cX7_bestGreatestLoad 40 = .ok (.iconst 1, 1) := by decide +kernel
theorem dX7_bestGreatestLoad_41 : decode cX7_bestGreatestLoad 41 = .ok (.if_icmp .ne 24, 3) := by decide +kernel
theorem dX7_bestGreatestLoad_44 : decode cX7_bestGreatestLoad 44 = .ok (.aload_n 0, 1) := by decide +kernel
theorem dX7_bestGreatestLoad_45 : decode cX7_bestGreatestLoad 45 = .ok (.getfield 38, 3) := by decide +kernel
theorem dX7_bestGreatestLoad_48 : decode cX7_bestGreatestLoad 48 = .ok (.iload_n 3, 1) := by decide +kernel
theorem dX7_bestGreatestLoad_49 : decode cX7_bestGreatestLoad 49 = .ok (.aload_n 0, 1) := by decide +kernel
theorem dX7_bestGreatestLoad_50 : decode cX7_bestGreatestLoad 50 = .ok (.iload 5, 2) := by decide +kernel
theorem dX7_bestGreatestLoad_52 : decode cX7_bestGreatestLoad 52 = .ok (.invokevirtual 106, 3) := by decide +kernel
theorem dX7_bestGreatestLoad_55 : decode cX7_bestGreatestLoad 55 = .ok (.iastore, 1) := by decide +kernel
theorem dX7_bestGreatestLoad_56 : decode cX7_bestGreatestLoad 56 = .ok (.iinc 3 1, 3) := by decide +kernel
theorem dX7_bestGreatestLoad_59 : decode cX7_bestGreatestLoad 59 = .ok (.iload 4, 2) := by decide +kernel
theorem dX7_bestGreatestLoad_61 : decode cX7_bestGreatestLoad 61 = .ok (.iload_n 1, 1) := by decide +kernel
theorem dX7_bestGreatestLoad_62 : decode cX7_bestGreatestLoad 62 = .ok (.imul, 1) := by decide +kernel
theorem dX7_bestGreatestLoad_63 : decode cX7_bestGreatestLoad 63 = .ok (.istore 4, 2) := by decide +kernel
theorem dX7_bestGreatestLoad_65 : decode cX7_bestGreatestLoad 65 = .ok (.iinc 5 1, 3) := by decide +kernel
theorem dX7_bestGreatestLoad_68 : decode cX7_bestGreatestLoad 68 = .ok (.goto (-45), 3) := by decide +kernel
theorem dX7_bestGreatestLoad_71 : decode cX7_bestGreatestLoad 71 = .ok (.aload_n 0, 1) := by decide +kernel
theorem dX7_bestGreatestLoad_72 : decode cX7_bestGreatestLoad 72 = .ok (.iconst 0, 1) := by decide +kernel
theorem dX7_bestGreatestLoad_73 : decode cX7_bestGreatestLoad 73 = .ok (.iload_n 3, 1) := by decide +kernel
theorem dX7_bestGreatestLoad_74 : decode cX7_bestGreatestLoad 74 = .ok (.iload_n 1, 1) := by decide +kernel
theorem dX7_bestGreatestLoad_75 : decode cX7_bestGreatestLoad 75 = .ok (.invokevirtual 127, 3) := by decide +kernel
theorem dX7_bestGreatestLoad_78 : decode cX7_bestGreatestLoad 78 = .ok (.istore 5, 2) := by decide +kernel
theorem dX7_bestGreatestLoad_80 : decode cX7_bestGreatestLoad 80 = .ok (.iconst 1, 1) := by decide +kernel
theorem dX7_bestGreatestLoad_81 : decode cX7_bestGreatestLoad 81 = .ok (.istore 6, 2) := by decide +kernel
theorem dX7_bestGreatestLoad_83 : decode cX7_bestGreatestLoad 83 = .ok (.iload 6, 2) := by decide +kernel
theorem dX7_bestGreatestLoad_85 : decode cX7_bestGreatestLoad 85 = .ok (.iload 4, 2) := by decide +kernel
theorem dX7_bestGreatestLoad_87 : decode cX7_bestGreatestLoad 87 = .ok (.iload_n 1, 1) := by decide +kernel
theorem dX7_bestGreatestLoad_88 : decode cX7_bestGreatestLoad 88 = .ok (.idiv, 1) := by decide +kernel
theorem dX7_bestGreatestLoad_89 : decode cX7_bestGreatestLoad 89 = .ok (.if_icmp .ge 35, 3) := by decide +kernel
theorem dX7_bestGreatestLoad_92 : decode cX7_bestGreatestLoad 92 = .ok (.aload_n 0, 1) := by decide +kernel
theorem dX7_bestGreatestLoad_93 : decode cX7_bestGreatestLoad 93 = .ok (.iload 6, 2) := by decide +kernel
theorem dX7_bestGreatestLoad_95 : decode cX7_bestGreatestLoad 95 = .ok (.iload_n 3, 1) := by decide +kernel
theorem dX7_bestGreatestLoad_96 : decode cX7_bestGreatestLoad 96 = .ok (.iload_n 1, 1) := by decide +kernel
theorem dX7_bestGreatestLoad_97 : decode cX7_bestGreatestLoad 97 = .ok (.invokevirtual 127, 3) := by decide +kernel
theorem dX7_bestGreatestLoad_100 : decode cX7_bestGreatestLoad 100 = .ok (.istore 7, 2) := by decide +kernel
theorem dX7_bestGreatestLoad_102 : decode cX7_bestGreatestLoad 102 = .ok (.iload 7, 2) := by decide +kernel
theorem dX7_bestGreatestLoad_104 : decode cX7_bestGreatestLoad 104 = .ok (.iload 5, 2) := by decide +kernel
theorem dX7_bestGreatestLoad_106 : decode cX7_bestGreatestLoad 106 = .ok (.if_icmp .ge 8, 3) := by decide +kernel
theorem dX7_bestGreatestLoad_109 : decode cX7_bestGreatestLoad 109 = .ok (.iload 7, 2) := by decide +kernel
theorem dX7_bestGreatestLoad_111 : decode cX7_bestGreatestLoad 111 = .ok (.goto 5, 3) := by decide +kernel
theorem dX7_bestGreatestLoad_114 : decode cX7_bestGreatestLoad 114 = .ok (.iload 5, 2) := by decide +kernel
theorem dX7_bestGreatestLoad_116 : decode cX7_bestGreatestLoad 116 = .ok (.istore 5, 2) := by decide +kernel
theorem dX7_bestGreatestLoad_118 : decode cX7_bestGreatestLoad 118 = .ok (.iinc 6 1, 3) := by decide +kernel
theorem dX7_bestGreatestLoad_121 : decode cX7_bestGreatestLoad 121 = .ok (.goto (-38), 3) := by decide +kernel
theorem dX7_bestGreatestLoad_124 : decode cX7_bestGreatestLoad 124 = .ok (.iload 5, 2) := by decide +kernel
theorem dX7_bestGreatestLoad_126 : decode cX7_bestGreatestLoad 126 = .ok (.ireturn, 1) := by decide +kernel
theorem dX7_save_0 : decode cX7_save 0 = .ok (.iload_n 1, 1) := by decide +kernel
theorem dX7_save_1 : decode cX7_save 1 = .ok (.iconst 0, 1) := by decide +kernel
theorem dX7_save_2 : decode cX7_save 2 = .ok (.iconst 1, 1) := by decide +kernel
theorem dX7_save_3 : decode cX7_save 3 = .ok (.invokestatic 41, 3) := by decide +kernel
theorem dX7_save_6 : decode cX7_save 6 = .ok (.ifCond .ne 6, 3) := by decide +kernel
theorem dX7_save_9 : decode cX7_save 9 = .ok (.bipush (-3), 2) := by decide +kernel
theorem dX7_save_11 : decode cX7_save 11 = .ok (.ireturn, 1) := by decide +kernel
theorem dX7_save_12 : decode cX7_save 12 = .ok (.iconst 0, 1) := by decide +kernel
theorem dX7_save_13 : decode cX7_save 13 = .ok (.istore_n 2, 1) := by decide +kernel
theorem dX7_save_14 : decode cX7_save 14 = .ok (.iload_n 2, 1) := by decide +kernel
theorem dX7_save_15 : decode cX7_save 15 = .ok (.sipush 703, 3) := by decide +kernel
theorem dX7_save_18 : decode cX7_save 18 = .ok (.if_icmp .ge 27, 3) := by decide +kernel
theorem dX7_save_21 : decode cX7_save 21 = .ok (.aload_n 0, 1) := by decide +kernel
theorem dX7_save_22 : decode cX7_save 22 = .ok (.getfield 13, 3) := by decide +kernel
theorem dX7_save_25 : decode cX7_save 25 = .ok (.sipush 703, 3) := by decide +kernel
theorem dX7_save_28 : decode cX7_save 28 = .ok (.iload_n 1, 1) := by decide +kernel
theorem dX7_save_29 : decode cX7_save 29 = .ok (.imul, 1) := by decide +kernel
theorem dX7_save_30 : decode cX7_save 30 = .ok (.iload_n 2, 1) := by decide +kernel
theorem dX7_save_31 : decode cX7_save 31 = .ok (.iadd, 1) := by decide +kernel
theorem dX7_save_32 : decode cX7_save 32 = .ok (.aload_n 0, 1) := by decide +kernel
theorem dX7_save_33 : decode cX7_save 33 = .ok (.getfield 7, 3) := by decide +kernel
theorem dX7_save_36 : decode cX7_save 36 = .ok (.iload_n 2, 1) := by decide +kernel
theorem dX7_save_37 : decode cX7_save 37 = .ok (.iaload, 1) := by decide +kernel
theorem dX7_save_38 : decode cX7_save 38 = .ok (.iastore, 1) := by decide +kernel
theorem dX7_save_39 : decode cX7_save 39 = .ok (.iinc 2 1, 3) := by decide +kernel
theorem dX7_save_42 : decode cX7_save 42 = .ok (.goto (-28), 3) := by decide +kernel
theorem dX7_save_45 : decode cX7_save 45 = .ok (.aload_n 0, 1) := by decide +kernel
theorem dX7_save_46 : decode cX7_save 46 = .ok (.getfield 16, 3) := by decide +kernel
theorem dX7_save_49 : decode cX7_save 49 = .ok (.iload_n 1, 1) := by decide +kernel
theorem dX7_save_50 : decode cX7_save 50 = .ok (.iconst 1, 1) := by decide +kernel
theorem dX7_save_51 : decode cX7_save 51 = .ok (.bastore, 1) := by decide +kernel
theorem dX7_save_52 : decode cX7_save 52 = .ok (.aload_n 0, 1) := by decide +kernel
theorem dX7_save_53 : decode cX7_save 53 = .ok (.getfield 7, 3) := by decide +kernel
theorem dX7_save_56 : decode cX7_save 56 = .ok (.iconst 0, 1) := by decide +kernel
theorem dX7_save_57 : decode cX7_save 57 = .ok (.iaload, 1) := by decide +kernel
theorem dX7_save_58 : decode cX7_save 58 = .ok (.ireturn, 1) := by decide +kernel
theorem dX7_restore_0 : decode cX7_restore 0 = .ok (.iload_n 1, 1) := by decide +kernel
theorem dX7_restore_1 : decode cX7_restore 1 = .ok (.iconst 0, 1) := by decide +kernel
theorem dX7_restore_2 : decode cX7_restore 2 = .ok (.iconst 1, 1) := by decide +kernel
theorem dX7_restore_3 : decode cX7_restore 3 = .ok (.invokestatic 41, 3) := by decide +kernel
theorem dX7_restore_6 : decode cX7_restore 6 = .ok (.ifCond .ne 6, 3) := by decide +kernel
theorem dX7_restore_9 : decode cX7_restore 9 = .ok (.bipush (-3), 2) := by decide +kernel
theorem dX7_restore_11 : decode cX7_restore 11 = .ok (.ireturn, 1) := by decide +kernel
theorem dX7_restore_12 : decode cX7_restore 12 = .ok (.aload_n 0, 1) := by decide +kernel
theorem dX7_restore_13 : decode cX7_restore 13 = .ok (.getfield 16, 3) := by decide +kernel
theorem dX7_restore_16 : decode cX7_restore 16 = .ok (.iload_n 1, 1) := by decide +kernel
theorem dX7_restore_17 : decode cX7_restore 17 = .ok (.baload, 1) := by decide +kernel
theorem dX7_restore_18 : decode cX7_restore 18 = .ok (.ifCond .ne 6, 3) := by decide +kernel
theorem dX7_restore_21 : decode cX7_restore 21 = .ok (.bipush (-11), 2) := by decide +kernel
theorem dX7_restore_23 : decode cX7_restore 23 = .ok (.ireturn, 1) := by decide +kernel
theorem dX7_restore_24 : decode cX7_restore 24 = .ok (.iconst 0, 1) := by decide +kernel
theorem dX7_restore_25 : decode cX7_restore 25 = .ok (.istore_n 2, 1) := by decide +kernel
theorem dX7_restore_26 : decode cX7_restore 26 = .ok (.iload_n 2, 1) := by decide +kernel
theorem dX7_restore_27 : decode cX7_restore 27 = .ok (.sipush 703, 3) := by decide +kernel
theorem dX7_restore_30 : decode cX7_restore 30 = .ok (.if_icmp .ge 27, 3) := by decide +kernel
theorem dX7_restore_33 : decode cX7_restore 33 = .ok (.aload_n 0, 1) := by decide +kernel
theorem dX7_restore_34 : decode cX7_restore 34 = .ok (.getfield 7, 3) := by decide +kernel
theorem dX7_restore_37 : decode cX7_restore 37 = .ok (.iload_n 2, 1) := by decide +kernel
theorem dX7_restore_38 : decode cX7_restore 38 = .ok (.aload_n 0, 1) := by decide +kernel
theorem dX7_restore_39 : decode cX7_restore 39 = .ok (.getfield 13, 3) := by decide +kernel
theorem dX7_restore_42 : decode cX7_restore 42 = .ok (.sipush 703, 3) := by decide +kernel
theorem dX7_restore_45 : decode cX7_restore 45 = .ok (.iload_n 1, 1) := by decide +kernel
theorem dX7_restore_46 : decode cX7_restore 46 = .ok (.imul, 1) := by decide +kernel
theorem dX7_restore_47 : decode cX7_restore 47 = .ok (.iload_n 2, 1) := by decide +kernel
theorem dX7_restore_48 : decode cX7_restore 48 = .ok (.iadd, 1) := by decide +kernel
theorem dX7_restore_49 : decode cX7_restore 49 = .ok (.iaload, 1) := by decide +kernel
theorem dX7_restore_50 : decode cX7_restore 50 = .ok (.iastore, 1) := by decide +kernel
theorem dX7_restore_51 : decode cX7_restore 51 = .ok (.iinc 2 1, 3) := by decide +kernel
theorem dX7_restore_54 : decode cX7_restore 54 = .ok (.goto (-28), 3) := by decide +kernel
theorem dX7_restore_57 : decode cX7_restore 57 = .ok (.aload_n 0, 1) := by decide +kernel
theorem dX7_restore_58 : decode cX7_restore 58 = .ok (.getfield 7, 3) := by decide +kernel
theorem dX7_restore_61 : decode cX7_restore 61 = .ok (.iconst 0, 1) := by decide +kernel
theorem dX7_restore_62 : decode cX7_restore 62 = .ok (.iaload, 1) := by decide +kernel
theorem dX7_restore_63 : decode cX7_restore 63 = .ok (.ireturn, 1) := by decide +kernel
