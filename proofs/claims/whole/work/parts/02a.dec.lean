theorem dJ6_bitCount_0f7a4_0 : decode cJ6_bitCount_0f7a4 0 = .ok (.iload_n 0, 1) := by decide +kernel
theorem dJ6_bitCount_0f7a4_1 : decode cJ6_bitCount_0f7a4 1 = .ok (.iload_n 0, 1) := by decide +kernel
theorem dJ6_bitCount_0f7a4_2 : decode cJ6_bitCount_0f7a4 2 = .ok (.iconst 1, 1) := by decide +kernel
theorem dJ6_bitCount_0f7a4_3 : decode cJ6_bitCount_0f7a4 3 = .ok (.iushr, 1) := by decide +kernel
theorem dJ6_bitCount_0f7a4_4 : decode cJ6_bitCount_0f7a4 4 = .ok (.ldc_w 265, 3) := by decide +kernel
theorem dJ6_bitCount_0f7a4_7 : decode cJ6_bitCount_0f7a4 7 = .ok (.iand, 1) := by decide +kernel
theorem dJ6_bitCount_0f7a4_8 : decode cJ6_bitCount_0f7a4 8 = .ok (.isub, 1) := by decide +kernel
theorem dJ6_bitCount_0f7a4_9 : decode cJ6_bitCount_0f7a4 9 = .ok (.istore_n 0, 1) := by decide +kernel
theorem dJ6_bitCount_0f7a4_10 : decode cJ6_bitCount_0f7a4 10 = .ok (.iload_n 0, 1) := by decide +kernel
theorem dJ6_bitCount_0f7a4_11 : decode cJ6_bitCount_0f7a4 11 = .ok (.ldc_w 266, 3) := by decide +kernel
theorem dJ6_bitCount_0f7a4_14 : decode cJ6_bitCount_0f7a4 14 = .ok (.iand, 1) := by decide +kernel
theorem dJ6_bitCount_0f7a4_15 : decode cJ6_bitCount_0f7a4 15 = .ok (.iload_n 0, 1) := by decide +kernel
theorem dJ6_bitCount_0f7a4_16 : decode cJ6_bitCount_0f7a4 16 = .ok (.iconst 2, 1) := by decide +kernel
theorem dJ6_bitCount_0f7a4_17 : decode cJ6_bitCount_0f7a4 17 = .ok (.iushr, 1) := by decide +kernel
theorem dJ6_bitCount_0f7a4_18 : decode cJ6_bitCount_0f7a4 18 = .ok (.ldc_w 266, 3) := by decide +kernel
theorem dJ6_bitCount_0f7a4_21 : decode cJ6_bitCount_0f7a4 21 = .ok (.iand, 1) := by decide +kernel
theorem dJ6_bitCount_0f7a4_22 : decode cJ6_bitCount_0f7a4 22 = .ok (.iadd, 1) := by decide +kernel
theorem dJ6_bitCount_0f7a4_23 : decode cJ6_bitCount_0f7a4 23 = .ok (.istore_n 0, 1) := by decide +kernel
theorem dJ6_bitCount_0f7a4_24 : decode cJ6_bitCount_0f7a4 24 = .ok (.iload_n 0, 1) := by decide +kernel
theorem dJ6_bitCount_0f7a4_25 : decode cJ6_bitCount_0f7a4 25 = .ok (.iload_n 0, 1) := by decide +kernel
theorem dJ6_bitCount_0f7a4_26 : decode cJ6_bitCount_0f7a4 26 = .ok (.iconst 4, 1) := by decide +kernel
theorem dJ6_bitCount_0f7a4_27 : decode cJ6_bitCount_0f7a4 27 = .ok (.iushr, 1) := by decide +kernel
theorem dJ6_bitCount_0f7a4_28 : decode cJ6_bitCount_0f7a4 28 = .ok (.iadd, 1) := by decide +kernel
theorem dJ6_bitCount_0f7a4_29 : decode cJ6_bitCount_0f7a4 29 = .ok (.ldc_w 267, 3) := by decide +kernel
theorem dJ6_bitCount_0f7a4_32 : decode cJ6_bitCount_0f7a4 32 = .ok (.iand, 1) := by decide +kernel
theorem dJ6_bitCount_0f7a4_33 : decode cJ6_bitCount_0f7a4 33 = .ok (.istore_n 0, 1) := by decide +kernel
theorem dJ6_bitCount_0f7a4_34 : decode cJ6_bitCount_0f7a4 34 = .ok (.iload_n 0, 1) := by decide +kernel
theorem dJ6_bitCount_0f7a4_35 : decode cJ6_bitCount_0f7a4 35 = .ok (.iload_n 0, 1) := by decide +kernel
theorem dJ6_bitCount_0f7a4_36 : decode cJ6_bitCount_0f7a4 36 = .ok (.bipush 8, 2) := by decide +kernel
theorem dJ6_bitCount_0f7a4_38 : decode cJ6_bitCount_0f7a4 38 = .ok (.iushr, 1) := by decide +kernel
theorem dJ6_bitCount_0f7a4_39 : decode cJ6_bitCount_0f7a4 39 = .ok (.iadd, 1) := by decide +kernel
theorem dJ6_bitCount_0f7a4_40 : decode cJ6_bitCount_0f7a4 40 = .ok (.istore_n 0, 1) := by decide +kernel
theorem dJ6_bitCount_0f7a4_41 : decode cJ6_bitCount_0f7a4 41 = .ok (.iload_n 0, 1) := by decide +kernel
theorem dJ6_bitCount_0f7a4_42 : decode cJ6_bitCount_0f7a4 42 = .ok (.iload_n 0, 1) := by decide +kernel
theorem dJ6_bitCount_0f7a4_43 : decode cJ6_bitCount_0f7a4 43 = .ok (.bipush 16, 2) := by decide +kernel
theorem dJ6_bitCount_0f7a4_45 : decode cJ6_bitCount_0f7a4 45 = .ok (.iushr, 1) := by decide +kernel
theorem dJ6_bitCount_0f7a4_46 : decode cJ6_bitCount_0f7a4 46 = .ok (.iadd, 1) := by decide +kernel
theorem dJ6_bitCount_0f7a4_47 : decode cJ6_bitCount_0f7a4 47 = .ok (.istore_n 0, 1) := by decide +kernel
theorem dJ6_bitCount_0f7a4_48 : decode cJ6_bitCount_0f7a4 48 = .ok (.iload_n 0, 1) := by decide +kernel
theorem dJ6_bitCount_0f7a4_49 : decode cJ6_bitCount_0f7a4 49 = .ok (.bipush 63, 2) := by decide +kernel
theorem dJ6_bitCount_0f7a4_51 : decode cJ6_bitCount_0f7a4 51 = .ok (.iand, 1) := by decide +kernel
theorem dJ6_bitCount_0f7a4_52 : decode cJ6_bitCount_0f7a4 52 = .ok (.ireturn, 1) := by decide +kernel
theorem dJ13_bitCount_95d88_0 : decode cJ13_bitCount_95d88 0 = .ok (.lload_n 0, 1) := by decide +kernel
theorem dJ13_bitCount_95d88_1 : decode cJ13_bitCount_95d88 1 = .ok (.lload_n 0, 1) := by decide +kernel
theorem dJ13_bitCount_95d88_2 : decode cJ13_bitCount_95d88 2 = .ok (.iconst 1, 1) := by decide +kernel
theorem dJ13_bitCount_95d88_3 : decode cJ13_bitCount_95d88 3 = .ok (.lushr, 1) := by decide +kernel
theorem dJ13_bitCount_95d88_4 : decode cJ13_bitCount_95d88 4 = .ok (.ldc2_w 314, 3) := by decide +kernel
theorem dJ13_bitCount_95d88_7 : decode cJ13_bitCount_95d88 7 = .ok (.land, 1) := by decide +kernel
theorem dJ13_bitCount_95d88_8 : decode cJ13_bitCount_95d88 8 = .ok (.lsub, 1) := by decide +kernel
theorem dJ13_bitCount_95d88_9 : decode cJ13_bitCount_95d88 9 = .ok (.lstore_n 0, 1) := by decide +kernel
theorem dJ13_bitCount_95d88_10 : decode cJ13_bitCount_95d88 10 = .ok (.lload_n 0, 1) := by decide +kernel
theorem dJ13_bitCount_95d88_11 : decode cJ13_bitCount_95d88 11 = .ok (.ldc2_w 316, 3) := by decide +kernel
theorem dJ13_bitCount_95d88_14 : decode cJ13_bitCount_95d88 14 = .ok (.land, 1) := by decide +kernel
theorem dJ13_bitCount_95d88_15 : decode cJ13_bitCount_95d88 15 = .ok (.lload_n 0, 1) := by decide +kernel
theorem dJ13_bitCount_95d88_16 : decode cJ13_bitCount_95d88 16 = .ok (.iconst 2, 1) := by decide +kernel
theorem dJ13_bitCount_95d88_17 : decode cJ13_bitCount_95d88 17 = .ok (.lushr, 1) := by decide +kernel
theorem dJ13_bitCount_95d88_18 : decode cJ13_bitCount_95d88 18 = .ok (.ldc2_w 316, 3) := by decide +kernel
theorem dJ13_bitCount_95d88_21 : decode cJ13_bitCount_95d88 21 = .ok (.land, 1) := by decide +kernel
theorem dJ13_bitCount_95d88_22 : decode cJ13_bitCount_95d88 22 = .ok (.ladd, 1) := by decide +kernel
theorem dJ13_bitCount_95d88_23 : decode cJ13_bitCount_95d88 23 = .ok (.lstore_n 0, 1) := by decide +kernel
theorem dJ13_bitCount_95d88_24 : decode cJ13_bitCount_95d88 24 = .ok (.lload_n 0, 1) := by decide +kernel
theorem dJ13_bitCount_95d88_25 : decode cJ13_bitCount_95d88 25 = .ok (.lload_n 0, 1) := by decide +kernel
theorem dJ13_bitCount_95d88_26 : decode cJ13_bitCount_95d88 26 = .ok (.iconst 4, 1) := by decide +kernel
theorem dJ13_bitCount_95d88_27 : decode cJ13_bitCount_95d88 27 = .ok (.lushr, 1) := by decide +kernel
theorem dJ13_bitCount_95d88_28 : decode cJ13_bitCount_95d88 28 = .ok (.ladd, 1) := by decide +kernel
theorem dJ13_bitCount_95d88_29 : decode cJ13_bitCount_95d88 29 = .ok (.ldc2_w 318, 3) := by decide +kernel
theorem dJ13_bitCount_95d88_32 : decode cJ13_bitCount_95d88 32 = .ok (.land, 1) := by decide +kernel
theorem dJ13_bitCount_95d88_33 : decode cJ13_bitCount_95d88 33 = .ok (.lstore_n 0, 1) := by decide +kernel
theorem dJ13_bitCount_95d88_34 : decode cJ13_bitCount_95d88 34 = .ok (.lload_n 0, 1) := by decide +kernel
theorem dJ13_bitCount_95d88_35 : decode cJ13_bitCount_95d88 35 = .ok (.lload_n 0, 1) := by decide +kernel
theorem dJ13_bitCount_95d88_36 : decode cJ13_bitCount_95d88 36 = .ok (.bipush 8, 2) := by decide +kernel
theorem dJ13_bitCount_95d88_38 : decode cJ13_bitCount_95d88 38 = .ok (.lushr, 1) := by decide +kernel
theorem dJ13_bitCount_95d88_39 : decode cJ13_bitCount_95d88 39 = .ok (.ladd, 1) := by decide +kernel
theorem dJ13_bitCount_95d88_40 : decode cJ13_bitCount_95d88 40 = .ok (.lstore_n 0, 1) := by decide +kernel
theorem dJ13_bitCount_95d88_41 : decode cJ13_bitCount_95d88 41 = .ok (.lload_n 0, 1) := by decide +kernel
theorem dJ13_bitCount_95d88_42 : decode cJ13_bitCount_95d88 42 = .ok (.lload_n 0, 1) := by decide +kernel
theorem dJ13_bitCount_95d88_43 : decode cJ13_bitCount_95d88 43 = .ok (.bipush 16, 2) := by decide +kernel
theorem dJ13_bitCount_95d88_45 : decode cJ13_bitCount_95d88 45 = .ok (.lushr, 1) := by decide +kernel
theorem dJ13_bitCount_95d88_46 : decode cJ13_bitCount_95d88 46 = .ok (.ladd, 1) := by decide +kernel
theorem dJ13_bitCount_95d88_47 : decode cJ13_bitCount_95d88 47 = .ok (.lstore_n 0, 1) := by decide +kernel
theorem dJ13_bitCount_95d88_48 : decode cJ13_bitCount_95d88 48 = .ok (.lload_n 0, 1) := by decide +kernel
theorem dJ13_bitCount_95d88_49 : decode cJ13_bitCount_95d88 49 = .ok (.lload_n 0, 1) := by decide +kernel
theorem dJ13_bitCount_95d88_50 : decode cJ13_bitCount_95d88 50 = .ok (.bipush 32, 2) := by decide +kernel
theorem dJ13_bitCount_95d88_52 : decode cJ13_bitCount_95d88 52 = .ok (.lushr, 1) := by decide +kernel
theorem dJ13_bitCount_95d88_53 : decode cJ13_bitCount_95d88 53 = .ok (.ladd, 1) := by decide +kernel
theorem dJ13_bitCount_95d88_54 : decode cJ13_bitCount_95d88 54 = .ok (.lstore_n 0, 1) := by decide +kernel
theorem dJ13_bitCount_95d88_55 : decode cJ13_bitCount_95d88 55 = .ok (.lload_n 0, 1) := by decide +kernel
theorem dJ13_bitCount_95d88_56 : decode cJ13_bitCount_95d88 56 = .ok (.l2i, 1) := by decide +kernel
theorem dJ13_bitCount_95d88_57 : decode cJ13_bitCount_95d88 57 = .ok (.bipush 127, 2) := by decide +kernel
theorem dJ13_bitCount_95d88_59 : decode cJ13_bitCount_95d88 59 = .ok (.iand, 1) := by decide +kernel
theorem dJ13_bitCount_95d88_60 : decode cJ13_bitCount_95d88 60 = .ok (.ireturn, 1) := by decide +kernel
theorem dJ7_fill_53178_0 : decode cJ7_fill_53178 0 = .ok (.iconst 0, 1) := by decide +kernel
theorem dJ7_fill_53178_1 : decode cJ7_fill_53178 1 = .ok (.istore_n 2, 1) := by decide +kernel
theorem dJ7_fill_53178_2 : decode cJ7_fill_53178 2 = .ok (.aload_n 0, 1) := by decide +kernel
theorem dJ7_fill_53178_3 : decode cJ7_fill_53178 3 = .ok (.arraylength, 1) := by decide +kernel
theorem dJ7_fill_53178_4 : decode cJ7_fill_53178 4 = .ok (.istore_n 3, 1) := by decide +kernel
theorem dJ7_fill_53178_5 : decode cJ7_fill_53178 5 = .ok (.iload_n 2, 1) := by decide +kernel
theorem dJ7_fill_53178_6 : decode cJ7_fill_53178 6 = .ok (.iload_n 3, 1) := by decide +kernel
theorem dJ7_fill_53178_7 : decode cJ7_fill_53178 7 = .ok (.if_icmp .ge 13, 3) := by decide +kernel
theorem dJ7_fill_53178_10 : decode cJ7_fill_53178 10 = .ok (.aload_n 0, 1) := by decide +kernel
theorem dJ7_fill_53178_11 : decode cJ7_fill_53178 11 = .ok (.iload_n 2, 1) := by decide +kernel
theorem dJ7_fill_53178_12 : decode cJ7_fill_53178 12 = .ok (.iload_n 1, 1) := by decide +kernel
theorem dJ7_fill_53178_13 : decode cJ7_fill_53178 13 = .ok (.iastore, 1) := by decide +kernel
theorem dJ7_fill_53178_14 : decode cJ7_fill_53178 14 = .ok (.iinc 2 1, 3) := by decide +kernel
theorem dJ7_fill_53178_17 : decode cJ7_fill_53178 17 = .ok (.goto (-12), 3) := by decide +kernel
theorem dJ7_fill_53178_20 : decode cJ7_fill_53178 20 = .ok (.return_, 1) := by decide +kernel
theorem dX0_init_0 : decode cX0_init 0 = .ok (.aload_n 0, 1) := by decide +kernel
theorem dX0_init_1 : decode cX0_init 1 = .ok (.invokespecial 3, 3) := by decide +kernel
theorem dX0_init_4 : decode cX0_init 4 = .ok (.aload_n 0, 1) := by decide +kernel
theorem dX0_init_5 : decode cX0_init 5 = .ok (.bipush 40, 2) := by decide +kernel
theorem dX0_init_7 : decode cX0_init 7 = .ok (.newarray .int, 2) := by decide +kernel
theorem dX0_init_9 : decode cX0_init 9 = .ok (.putfield 9, 3) := by decide +kernel
theorem dX0_init_12 : decode cX0_init 12 = .ok (.bipush 40, 2) := by decide +kernel
theorem dX0_init_14 : decode cX0_init 14 = .ok (.newarray .long, 2) := by decide +kernel
theorem dX0_init_16 : decode cX0_init 16 = .ok (.astore 5, 2) := by decide +kernel
theorem dX0_init_18 : decode cX0_init 18 = .ok (.aload 5, 2) := by decide +kernel
theorem dX0_init_20 : decode cX0_init 20 = .ok (.iconst 0, 1) := by decide +kernel
theorem dX0_init_21 : decode cX0_init 21 = .ok (.iload 4, 2) := by decide +kernel
theorem dX0_init_23 : decode cX0_init 23 = .ok (.invokestatic 15, 3) := by decide +kernel
theorem dX0_init_26 : decode cX0_init 26 = .ok (.lastore, 1) := by decide +kernel
theorem dX0_init_27 : decode cX0_init 27 = .ok (.iconst 0, 1) := by decide +kernel
theorem dX0_init_28 : decode cX0_init 28 = .ok (.istore 6, 2) := by decide +kernel
theorem dX0_init_30 : decode cX0_init 30 = .ok (.iload 6, 2) := by decide +kernel
theorem dX0_init_32 : decode cX0_init 32 = .ok (.bipush 39, 2) := by decide +kernel
theorem dX0_init_34 : decode cX0_init 34 = .ok (.if_icmp .ge 47, 3) := by decide +kernel
theorem dX0_init_37 : decode cX0_init 37 = .ok (.aload 5, 2) := by decide +kernel
theorem dX0_init_39 : decode cX0_init 39 = .ok (.iload 6, 2) := by decide +kernel
theorem dX0_init_41 : decode cX0_init 41 = .ok (.laload, 1) := by decide +kernel
theorem dX0_init_42 : decode cX0_init 42 = .ok (.lconst 0, 1) := by decide +kernel
theorem dX0_init_43 : decode cX0_init 43 = .ok (.lcmp, 1) := by decide +kernel
theorem dX0_init_44 : decode cX0_init 44 = .ok (.ifCond .eq 37, 3) := by decide +kernel
theorem dX0_init_47 : decode cX0_init 47 = .ok (.aload 5, 2) := by decide +kernel
theorem dX0_init_49 : decode cX0_init 49 = .ok (.iload 6, 2) := by decide +kernel
theorem dX0_init_51 : decode cX0_init 51 = .ok (.laload, 1) := by decide +kernel
theorem dX0_init_52 : decode cX0_init 52 = .ok (.lload_n 2, 1) := by decide +kernel
theorem dX0_init_53 : decode cX0_init 53 = .ok (.land, 1) := by decide +kernel
theorem dX0_init_54 : decode cX0_init 54 = .ok (.lconst 0, 1) := by decide +kernel
theorem dX0_init_55 : decode cX0_init 55 = .ok (.lcmp, 1) := by decide +kernel
theorem dX0_init_56 : decode cX0_init 56 = .ok (.ifCond .ne 25, 3) := by decide +kernel
theorem dX0_init_59 : decode cX0_init 59 = .ok (.aload 5, 2) := by decide +kernel
theorem dX0_init_61 : decode cX0_init 61 = .ok (.iload 6, 2) := by decide +kernel
theorem dX0_init_63 : decode cX0_init 63 = .ok (.iconst 1, 1) := by decide +kernel
theorem dX0_init_64 : decode cX0_init 64 = .ok (.iadd, 1) := by decide +kernel
theorem dX0_init_65 : decode cX0_init 65 = .ok (.aload_n 1, 1) := by decide +kernel
theorem dX0_init_66 : decode cX0_init 66 = .ok (.aload 5, 2) := by decide +kernel
theorem dX0_init_68 : decode cX0_init 68 = .ok (.iload 6, 2) := by decide +kernel
theorem dX0_init_70 : decode cX0_init 70 = .ok (.laload, 1) := by decide +kernel
theorem dX0_init_71 : decode cX0_init 71 = .ok (.invokevirtual 19, 3) := by decide +kernel
theorem dX0_init_74 : decode cX0_init 74 = .ok (.lastore, 1) := by decide +kernel
theorem dX0_init_75 : decode cX0_init 75 = .ok (.iinc 6 1, 3) := by decide +kernel
theorem dX0_init_78 : decode cX0_init 78 = .ok (.goto (-48), 3) := by decide +kernel
theorem dX0_init_81 : decode cX0_init 81 = .ok (.aload 5, 2) := by decide +kernel
theorem dX0_init_83 : decode cX0_init 83 = .ok (.iload 6, 2) := by decide +kernel
theorem dX0_init_85 : decode cX0_init 85 = .ok (.laload, 1) := by decide +kernel
theorem dX0_init_86 : decode cX0_init 86 = .ok (.lload_n 2, 1) := by decide +kernel
theorem dX0_init_87 : decode cX0_init 87 = .ok (.land, 1) := by decide +kernel
theorem dX0_init_88 : decode cX0_init 88 = .ok (.invokestatic 25, 3) := by decide +kernel
theorem dX0_init_91 : decode cX0_init 91 = .ok (.istore 7, 2) := by decide +kernel
theorem dX0_init_93 : decode cX0_init 93 = .ok (.iload 6, 2) := by decide +kernel
theorem dX0_init_95 : decode cX0_init 95 = .ok (.istore 8, 2) := by decide +kernel
theorem dX0_init_97 : decode cX0_init 97 = .ok (.iload 8, 2) := by decide +kernel
theorem dX0_init_99 : decode cX0_init 99 = .ok (.ifCond .lt 66, 3) := by decide +kernel
theorem dX0_init_102 : decode cX0_init 102 = .ok (.iload 7, 2) := by decide +kernel
theorem dX0_init_104 : decode cX0_init 104 = .ok (.bipush (-10), 2) := by decide +kernel
theorem dX0_init_106 : decode cX0_init 106 = .ok (.if_icmp .eq 59, 3) := by decide +kernel
theorem dX0_init_109 : decode cX0_init 109 = .ok (.aload_n 0, 1) := by decide +kernel
theorem dX0_init_110 : decode cX0_init 110 = .ok (.getfield 9, 3) := by decide +kernel
theorem dX0_init_113 : decode cX0_init 113 = .ok (.aload_n 0, 1) := by decide +kernel
theorem dX0_init_114 : decode cX0_init 114 = .ok (.getfield 29, 3) := by decide +kernel
theorem dX0_init_117 : decode cX0_init 117 = .ok (.iload 7, 2) := by decide +kernel
theorem dX0_init_119 : decode cX0_init 119 = .ok (.iastore, 1) := by decide +kernel
theorem dX0_init_120 : decode cX0_init 120 = .ok (.aload_n 0, 1) := by decide +kernel
theorem dX0_init_121 : decode cX0_init 121 = .ok (.dup, 1) := by decide +kernel
theorem dX0_init_122 : decode cX0_init 122 = .ok (.getfield 29, 3) := by decide +kernel
theorem dX0_init_125 : decode cX0_init 125 = .ok (.iconst 1, 1) := by decide +kernel
theorem dX0_init_126 : decode cX0_init 126 = .ok (.iadd, 1) := by decide +kernel
theorem dX0_init_127 : decode cX0_init 127 = .ok (.putfield 29, 3) := by decide +kernel
theorem dX0_init_130 : decode cX0_init 130 = .ok (.iload 8, 2) := by decide +kernel
theorem dX0_init_132 : decode cX0_init 132 = .ok (.ifCond .le 23, 3) := by decide +kernel
theorem dX0_init_135 : decode cX0_init 135 = .ok (.aload_n 1, 1) := by decide +kernel
theorem dX0_init_136 : decode cX0_init 136 = .ok (.iload 7, 2) := by decide +kernel
theorem dX0_init_138 : decode cX0_init 138 = .ok (.invokevirtual 33, 3) := by decide +kernel
theorem dX0_init_141 : decode cX0_init 141 = .ok (.aload 5, 2) := by decide +kernel
theorem dX0_init_143 : decode cX0_init 143 = .ok (.iload 8, 2) := by decide +kernel
theorem dX0_init_145 : decode cX0_init 145 = .ok (.iconst 1, 1) := by decide +kernel
theorem dX0_init_146 : decode cX0_init 146 = .ok (.isub, 1) := by decide +kernel
theorem dX0_init_147 : decode cX0_init 147 = .ok (.laload, 1) := by decide +kernel
theorem dX0_init_148 : decode cX0_init 148 = .ok (.land, 1) := by decide +kernel
theorem dX0_init_149 : decode cX0_init 149 = .ok (.invokestatic 25, 3) := by decide +kernel
theorem dX0_init_152 : decode cX0_init 152 = .ok (.goto 5, 3) := by decide +kernel
theorem dX0_init_155 : decode cX0_init 155 = .ok (.bipush (-10), 2) := by decide +kernel
theorem dX0_init_157 : decode cX0_init 157 = .ok (.istore 7, 2) := by decide +kernel
theorem dX0_init_159 : decode cX0_init 159 = .ok (.iinc 8 (-1), 3) := by decide +kernel
theorem dX0_init_162 : decode cX0_init 162 = .ok (.goto (-65), 3) := by decide +kernel
theorem dX0_init_165 : decode cX0_init 165 = .ok (.return_, 1) := by decide +kernel
theorem dX1_init_0 : decode cX1_init 0 = .ok (.aload_n 0, 1) := by decide +kernel
theorem dX1_init_1 : decode cX1_init 1 = .ok (.invokespecial 3, 3) := by decide +kernel
theorem dX1_init_4 : decode cX1_init 4 = .ok (.aload_n 0, 1) := by decide +kernel
theorem dX1_init_5 : decode cX1_init 5 = .ok (.bipush 40, 2) := by decide +kernel
theorem dX1_init_7 : decode cX1_init 7 = .ok (.newarray .int, 2) := by decide +kernel
theorem dX1_init_9 : decode cX1_init 9 = .ok (.putfield 9, 3) := by decide +kernel
theorem dX1_init_12 : decode cX1_init 12 = .ok (.aload_n 0, 1) := by decide +kernel
theorem dX1_init_13 : decode cX1_init 13 = .ok (.bipush 40, 2) := by decide +kernel
theorem dX1_init_15 : decode cX1_init 15 = .ok (.newarray .int, 2) := by decide +kernel
theorem dX1_init_17 : decode cX1_init 17 = .ok (.putfield 15, 3) := by decide +kernel
theorem dX1_init_20 : decode cX1_init 20 = .ok (.aload_n 0, 1) := by decide +kernel
theorem dX1_init_21 : decode cX1_init 21 = .ok (.bipush 40, 2) := by decide +kernel
theorem dX1_init_23 : decode cX1_init 23 = .ok (.newarray .boolean, 2) := by decide +kernel
theorem dX1_init_25 : decode cX1_init 25 = .ok (.putfield 18, 3) := by decide +kernel
theorem dX1_init_28 : decode cX1_init 28 = .ok (.aload_n 0, 1) := by decide +kernel
theorem dX1_init_29 : decode cX1_init 29 = .ok (.bipush 40, 2) := by decide +kernel
theorem dX1_init_31 : decode cX1_init 31 = .ok (.newarray .boolean, 2) := by decide +kernel
theorem dX1_init_33 : decode cX1_init 33 = .ok (.putfield 22, 3) := by decide +kernel
theorem dX1_init_36 : decode cX1_init 36 = .ok (.bipush 100, 2) := by decide +kernel
theorem dX1_init_38 : decode cX1_init 38 = .ok (.newarray .int, 2) := by decide +kernel
theorem dX1_init_40 : decode cX1_init 40 = .ok (.astore_n 1, 1) := by decide +kernel
theorem dX1_init_41 : decode cX1_init 41 = .ok (.aload_n 1, 1) := by decide +kernel
theorem dX1_init_42 : decode cX1_init 42 = .ok (.bipush (-10), 2) := by decide +kernel
theorem dX1_init_44 : decode cX1_init 44 = .ok (.invokestatic 25, 3) := by decide +kernel
theorem dX1_init_47 : decode cX1_init 47 = .ok (.aload_n 0, 1) := by decide +kernel
theorem dX1_init_48 : decode cX1_init 48 = .ok (.aload_n 1, 1) := by decide +kernel
theorem dX1_init_49 : decode cX1_init 49 = .ok (.putfield 31, 3) := by decide +kernel
theorem dX1_init_52 : decode cX1_init 52 = .ok (.return_, 1) := by decide +kernel
theorem dX1_copyFrom_0 : decode cX1_copyFrom 0 = .ok (.aload_n 0, 1) := by decide +kernel
theorem dX1_copyFrom_1 : decode cX1_copyFrom 1 = .ok (.aload_n 1, 1) := by decide +kernel
theorem dX1_copyFrom_2 : decode cX1_copyFrom 2 = .ok (.getfield 34, 3) := by decide +kernel
theorem dX1_copyFrom_5 : decode cX1_copyFrom 5 = .ok (.putfield 34, 3) := by decide +kernel
theorem dX1_copyFrom_8 : decode cX1_copyFrom 8 = .ok (.aload_n 1, 1) := by decide +kernel
theorem dX1_copyFrom_9 : decode cX1_copyFrom 9 = .ok (.getfield 9, 3) := by decide +kernel
theorem dX1_copyFrom_12 : decode cX1_copyFrom 12 = .ok (.iconst 0, 1) := by decide +kernel
theorem dX1_copyFrom_13 : decode cX1_copyFrom 13 = .ok (.aload_n 0, 1) := by decide +kernel
theorem dX1_copyFrom_14 : decode cX1_copyFrom 14 = .ok (.getfield 9, 3) := by decide +kernel
theorem dX1_copyFrom_17 : decode cX1_copyFrom 17 = .ok (.iconst 0, 1) := by decide +kernel
theorem dX1_copyFrom_18 : decode cX1_copyFrom 18 = .ok (.bipush 40, 2) := by decide +kernel
theorem dX1_copyFrom_20 : decode cX1_copyFrom 20 = .ok (.invokestatic 38, 3) := by decide +kernel
theorem dX1_copyFrom_23 : decode cX1_copyFrom 23 = .ok (.aload_n 1, 1) := by decide +kernel
theorem dX1_copyFrom_24 : decode cX1_copyFrom 24 = .ok (.getfield 15, 3) := by decide +kernel
theorem dX1_copyFrom_27 : decode cX1_copyFrom 27 = .ok (.iconst 0, 1) := by decide +kernel
theorem dX1_copyFrom_28 : decode cX1_copyFrom 28 = .ok (.aload_n 0, 1) := by decide +kernel
theorem dX1_copyFrom_29 : decode cX1_copyFrom 29 = .ok (.getfield 15, 3) := by decide +kernel
theorem dX1_copyFrom_32 : decode cX1_copyFrom 32 = .ok (.iconst 0, 1) := by decide +kernel
theorem dX1_copyFrom_33 : decode cX1_copyFrom 33 = .ok (.bipush 40, 2) := by decide +kernel
theorem dX1_copyFrom_35 : decode cX1_copyFrom 35 = .ok (.invokestatic 38, 3) := by decide +kernel
theorem dX1_copyFrom_38 : decode cX1_copyFrom 38 = .ok (.aload_n 1, 1) := by decide +kernel
theorem dX1_copyFrom_39 : decode cX1_copyFrom 39 = .ok (.getfield 18, 3) := by decide +kernel
theorem dX1_copyFrom_42 : decode cX1_copyFrom 42 = .ok (.iconst 0, 1) := by decide +kernel
theorem dX1_copyFrom_43 : decode cX1_copyFrom 43 = .ok (.aload_n 0, 1) := by decide +kernel
theorem dX1_copyFrom_44 : decode cX1_copyFrom 44 = .ok (.getfield 18, 3) := by decide +kernel
theorem dX1_copyFrom_47 : decode cX1_copyFrom 47 = .ok (.iconst 0, 1) := by decide +kernel
theorem dX1_copyFrom_48 : decode cX1_copyFrom 48 = .ok (.bipush 40, 2) := by decide +kernel
theorem dX1_copyFrom_50 : decode cX1_copyFrom 50 = .ok (.invokestatic 38, 3) := by decide +kernel
theorem dX1_copyFrom_53 : decode cX1_copyFrom 53 = .ok (.aload_n 1, 1) := by decide +kernel
theorem dX1_copyFrom_54 : decode cX1_copyFrom 54 = .ok (.getfield 22, 3) := by decide +kernel
theorem dX1_copyFrom_57 : decode cX1_copyFrom 57 = .ok (.iconst 0, 1) := by decide +kernel
theorem dX1_copyFrom_58 : decode cX1_copyFrom 58 = .ok (.aload_n 0, 1) := by decide +kernel
theorem dX1_copyFrom_59 : decode cX1_copyFrom 59 = .ok (.getfield 22, 3) := by decide +kernel
theorem dX1_copyFrom_62 : decode cX1_copyFrom 62 = .ok (.iconst 0, 1) := by decide +kernel
theorem dX1_copyFrom_63 : decode cX1_copyFrom 63 = .ok (.bipush 40, 2) := by decide +kernel
theorem dX1_copyFrom_65 : decode cX1_copyFrom 65 = .ok (.invokestatic 38, 3) := by decide +kernel
theorem dX1_copyFrom_68 : decode cX1_copyFrom 68 = .ok (.aload_n 1, 1) := by decide +kernel
theorem dX1_copyFrom_69 : decode cX1_copyFrom 69 = .ok (.getfield 31, 3) := by decide +kernel
theorem dX1_copyFrom_72 : decode cX1_copyFrom 72 = .ok (.iconst 0, 1) := by decide +kernel
theorem dX1_copyFrom_73 : decode cX1_copyFrom 73 = .ok (.aload_n 0, 1) := by decide +kernel
theorem dX1_copyFrom_74 : decode cX1_copyFrom 74 = .ok (.getfield 31, 3) := by decide +kernel
theorem dX1_copyFrom_77 : decode cX1_copyFrom 77 = .ok (.iconst 0, 1) := by decide +kernel
theorem dX1_copyFrom_78 : decode cX1_copyFrom 78 = .ok (.bipush 100, 2) := by decide +kernel
theorem dX1_copyFrom_80 : decode cX1_copyFrom 80 = .ok (.invokestatic 38, 3) := by decide +kernel
theorem dX1_copyFrom_83 : decode cX1_copyFrom 83 = .ok (.return_, 1) := by decide +kernel
theorem dX1_has_0 : decode cX1_has 0 = .ok (.iload_n 1, 1) := by decide +kernel
theorem dX1_has_1 : decode cX1_has 1 = .ok (.aload_n 0, 1) := by decide +kernel
theorem dX1_has_2 : decode cX1_has 2 = .ok (.getfield 34, 3) := by decide +kernel
theorem dX1_has_5 : decode cX1_has 5 = .ok (.invokestatic 44, 3) := by decide +kernel
theorem dX1_has_8 : decode cX1_has 8 = .ok (.ifCond .eq 16, 3) := by decide +kernel
theorem dX1_has_11 : decode cX1_has 11 = .ok (.aload_n 0, 1) := by decide +kernel
theorem dX1_has_12 : decode cX1_has 12 = .ok (.getfield 22, 3) := by decide +kernel
theorem dX1_has_15 : decode cX1_has 15 = .ok (.iload_n 1, 1) := by decide +kernel
theorem dX1_has_16 : decode cX1_has 16 = .ok (.baload, 1) := by decide +kernel
theorem dX1_has_17 : decode cX1_has 17 = .ok (.ifCond .eq 7, 3) := by decide +kernel
theorem dX1_has_20 : decode cX1_has 20 = .ok (.iconst 1, 1) := by decide +kernel
theorem dX1_has_21 : decode cX1_has 21 = .ok (.goto 4, 3) := by decide +kernel
theorem dX1_has_24 : decode cX1_has 24 = .ok (.iconst 0, 1) := by decide +kernel
theorem dX1_has_25 : decode cX1_has 25 = .ok (.ireturn, 1) := by decide +kernel
theorem dX1_isInUse_0 : decode cX1_isInUse 0 = .ok (.aload_n 0, 1) := by decide +kernel
theorem dX1_isInUse_1 : decode cX1_isInUse 1 = .ok (.getfield 31, 3) := by decide +kernel
theorem dX1_isInUse_4 : decode cX1_isInUse 4 = .ok (.iload_n 1, 1) := by decide +kernel
theorem dX1_isInUse_5 : decode cX1_isInUse 5 = .ok (.iaload, 1) := by decide +kernel
theorem dX1_isInUse_6 : decode cX1_isInUse 6 = .ok (.istore_n 2, 1) := by decide +kernel
theorem dX1_isInUse_7 : decode cX1_isInUse 7 = .ok (.aload_n 0, 1) := by decide +kernel
theorem dX1_isInUse_8 : decode cX1_isInUse 8 = .ok (.iload_n 2, 1) := by decide +kernel
theorem dX1_isInUse_9 : decode cX1_isInUse 9 = .ok (.invokevirtual 48, 3) := by decide +kernel
theorem dX1_isInUse_12 : decode cX1_isInUse 12 = .ok (.ifCond .eq 17, 3) := by decide +kernel
theorem dX1_isInUse_15 : decode cX1_isInUse 15 = .ok (.aload_n 0, 1) := by decide +kernel
theorem dX1_isInUse_16 : decode cX1_isInUse 16 = .ok (.getfield 15, 3) := by decide +kernel
theorem dX1_isInUse_19 : decode cX1_isInUse 19 = .ok (.iload_n 2, 1) := by decide +kernel
theorem dX1_isInUse_20 : decode cX1_isInUse 20 = .ok (.iaload, 1) := by decide +kernel
theorem dX1_isInUse_21 : decode cX1_isInUse 21 = .ok (.iload_n 1, 1) := by decide +kernel
theorem dX1_isInUse_22 : decode cX1_isInUse 22 = .ok (.if_icmp .ne 7, 3) := by decide +kernel
theorem dX1_isInUse_25 : decode cX1_isInUse 25 = .ok (.iconst 1, 1) := by decide +kernel
theorem dX1_isInUse_26 : decode cX1_isInUse 26 = .ok (.goto 4, 3) := by decide +kernel
theorem dX1_isInUse_29 : decode cX1_isInUse 29 = .ok (.iconst 0, 1) := by decide +kernel
theorem dX1_isInUse_30 : decode cX1_isInUse 30 = .ok (.ireturn, 1) := by decide +kernel
theorem dX1_append_0 : decode cX1_append 0 = .ok (.aload_n 0, 1) := by decide +kernel
theorem dX1_append_1 : decode cX1_append 1 = .ok (.getfield 34, 3) := by decide +kernel
theorem dX1_append_4 : decode cX1_append 4 = .ok (.istore 4, 2) := by decide +kernel
theorem dX1_append_6 : decode cX1_append 6 = .ok (.aload_n 0, 1) := by decide +kernel
theorem dX1_append_7 : decode cX1_append 7 = .ok (.getfield 9, 3) := by decide +kernel
theorem dX1_append_10 : decode cX1_append 10 = .ok (.iload 4, 2) := by decide +kernel
theorem dX1_append_12 : decode cX1_append 12 = .ok (.iload_n 1, 1) := by decide +kernel
theorem dX1_append_13 : decode cX1_append 13 = .ok (.iastore, 1) := by decide +kernel
theorem dX1_append_14 : decode cX1_append 14 = .ok (.aload_n 0, 1) := by decide +kernel
theorem dX1_append_15 : decode cX1_append 15 = .ok (.getfield 18, 3) := by decide +kernel
theorem dX1_append_18 : decode cX1_append 18 = .ok (.iload 4, 2) := by decide +kernel
theorem dX1_append_20 : decode cX1_append 20 = .ok (.iload_n 2, 1) := by decide +kernel
theorem dX1_append_21 : decode cX1_append 21 = .ok (.bastore, 1) := by decide +kernel
theorem dX1_append_22 : decode cX1_append 22 = .ok (.aload_n 0, 1) := by decide +kernel
theorem dX1_append_23 : decode cX1_append 23 = .ok (.getfield 22, 3) := by decide +kernel
theorem dX1_append_26 : decode cX1_append 26 = .ok (.iload 4, 2) := by decide +kernel
theorem dX1_append_28 : decode cX1_append 28 = .ok (.iconst 1, 1) := by decide +kernel
theorem dX1_append_29 : decode cX1_append 29 = .ok (.bastore, 1) := by decide +kernel
theorem dX1_append_30 : decode cX1_append 30 = .ok (.aload_n 0, 1) := by decide +kernel
theorem dX1_append_31 : decode cX1_append 31 = .ok (.dup, 1) := by decide +kernel
theorem dX1_append_32 : decode cX1_append 32 = .ok (.getfield 34, 3) := by decide +kernel
theorem dX1_append_35 : decode cX1_append 35 = .ok (.iconst 1, 1) := by decide +kernel
theorem dX1_append_36 : decode cX1_append 36 = .ok (.iadd, 1) := by decide +kernel
theorem dX1_append_37 : decode cX1_append 37 = .ok (.putfield 34, 3) := by decide +kernel
theorem dX1_append_40 : decode cX1_append 40 = .ok (.aload_n 0, 1) := by decide +kernel
theorem dX1_append_41 : decode cX1_append 41 = .ok (.iload 4, 2) := by decide +kernel
theorem dX1_append_43 : decode cX1_append 43 = .ok (.iload_n 3, 1) := by decide +kernel
theorem dX1_append_44 : decode cX1_append 44 = .ok (.invokevirtual 52, 3) := by decide +kernel
theorem dX1_append_47 : decode cX1_append 47 = .ok (.iload 4, 2) := by decide +kernel
theorem dX1_append_49 : decode cX1_append 49 = .ok (.ireturn, 1) := by decide +kernel
theorem dX1_giveName_0 : decode cX1_giveName 0 = .ok (.aload_n 0, 1) := by decide +kernel
theorem dX1_giveName_1 : decode cX1_giveName 1 = .ok (.getfield 15, 3) := by decide +kernel
theorem dX1_giveName_4 : decode cX1_giveName 4 = .ok (.iload_n 1, 1) := by decide +kernel
theorem dX1_giveName_5 : decode cX1_giveName 5 = .ok (.iload_n 2, 1) := by decide +kernel
theorem dX1_giveName_6 : decode cX1_giveName 6 = .ok (.iastore, 1) := by decide +kernel
theorem dX1_giveName_7 : decode cX1_giveName 7 = .ok (.aload_n 0, 1) := by decide +kernel
theorem dX1_giveName_8 : decode cX1_giveName 8 = .ok (.getfield 31, 3) := by decide +kernel
theorem dX1_giveName_11 : decode cX1_giveName 11 = .ok (.iload_n 2, 1) := by decide +kernel
theorem dX1_giveName_12 : decode cX1_giveName 12 = .ok (.iload_n 1, 1) := by decide +kernel
theorem dX1_giveName_13 : decode cX1_giveName 13 = .ok (.iastore, 1) := by decide +kernel
theorem dX1_giveName_14 : decode cX1_giveName 14 = .ok (.return_, 1) := by decide +kernel
theorem dX2_init_0 : decode cX2_init 0 = .ok (.aload_n 0, 1) := by decide +kernel
theorem dX2_init_1 : decode cX2_init 1 = .ok (.invokespecial 3, 3) := by decide +kernel
theorem dX2_init_4 : decode cX2_init 4 = .ok (.aload_n 0, 1) := by decide +kernel
theorem dX2_init_5 : decode cX2_init 5 = .ok (.bipush 20, 2) := by decide +kernel
theorem dX2_init_7 : decode cX2_init 7 = .ok (.newarray .int, 2) := by decide +kernel
theorem dX2_init_9 : decode cX2_init 9 = .ok (.putfield 9, 3) := by decide +kernel
theorem dX2_init_12 : decode cX2_init 12 = .ok (.aload_n 0, 1) := by decide +kernel
theorem dX2_init_13 : decode cX2_init 13 = .ok (.aload_n 1, 1) := by decide +kernel
theorem dX2_init_14 : decode cX2_init 14 = .ok (.putfield 15, 3) := by decide +kernel
theorem dX2_init_17 : decode cX2_init 17 = .ok (.aload_n 0, 1) := by decide +kernel
theorem dX2_init_18 : decode cX2_init 18 = .ok (.iload_n 2, 1) := by decide +kernel
theorem dX2_init_19 : decode cX2_init 19 = .ok (.putfield 19, 3) := by decide +kernel
theorem dX2_init_22 : decode cX2_init 22 = .ok (.iload_n 2, 1) := by decide +kernel
theorem dX2_init_23 : decode cX2_init 23 = .ok (.istore_n 3, 1) := by decide +kernel
theorem dX2_init_24 : decode cX2_init 24 = .ok (.iconst 0, 1) := by decide +kernel
theorem dX2_init_25 : decode cX2_init 25 = .ok (.istore 4, 2) := by decide +kernel
theorem dX2_init_27 : decode cX2_init 27 = .ok (.iload 4, 2) := by decide +kernel
theorem dX2_init_29 : decode cX2_init 29 = .ok (.bipush 20, 2) := by decide +kernel
theorem dX2_init_31 : decode cX2_init 31 = .ok (.if_icmp .ge 67, 3) := by decide +kernel
theorem dX2_init_34 : decode cX2_init 34 = .ok (.iload_n 3, 1) := by decide +kernel
theorem dX2_init_35 : decode cX2_init 35 = .ok (.ifCond .eq 63, 3) := by decide +kernel
theorem dX2_init_38 : decode cX2_init 38 = .ok (.iload_n 3, 1) := by decide +kernel
theorem dX2_init_39 : decode cX2_init 39 = .ok (.aload_n 1, 1) := by decide +kernel
theorem dX2_init_40 : decode cX2_init 40 = .ok (.iload_n 3, 1) := by decide +kernel
theorem dX2_init_41 : decode cX2_init 41 = .ok (.bipush 7, 2) := by decide +kernel
theorem dX2_init_43 : decode cX2_init 43 = .ok (.invokevirtual 23, 3) := by decide +kernel
theorem dX2_init_46 : decode cX2_init 46 = .ok (.iconst (-1), 1) := by decide +kernel
theorem dX2_init_47 : decode cX2_init 47 = .ok (.ixor, 1) := by decide +kernel
theorem dX2_init_48 : decode cX2_init 48 = .ok (.iand, 1) := by decide +kernel
theorem dX2_init_49 : decode cX2_init 49 = .ok (.invokestatic 29, 3) := by decide +kernel
theorem dX2_init_52 : decode cX2_init 52 = .ok (.istore 5, 2) := by decide +kernel
theorem dX2_init_54 : decode cX2_init 54 = .ok (.iload 5, 2) := by decide +kernel
theorem dX2_init_56 : decode cX2_init 56 = .ok (.bipush (-10), 2) := by decide +kernel
theorem dX2_init_58 : decode cX2_init 58 = .ok (.if_icmp .eq 34, 3) := by decide +kernel
theorem dX2_init_61 : decode cX2_init 61 = .ok (.aload_n 0, 1) := by decide +kernel
theorem dX2_init_62 : decode cX2_init 62 = .ok (.getfield 9, 3) := by decide +kernel
theorem dX2_init_65 : decode cX2_init 65 = .ok (.aload_n 0, 1) := by decide +kernel
theorem dX2_init_66 : decode cX2_init 66 = .ok (.getfield 33, 3) := by decide +kernel
theorem dX2_init_69 : decode cX2_init 69 = .ok (.iload 5, 2) := by decide +kernel
theorem dX2_init_71 : decode cX2_init 71 = .ok (.iastore, 1) := by decide +kernel
theorem dX2_init_72 : decode cX2_init 72 = .ok (.aload_n 0, 1) := by decide +kernel
theorem dX2_init_73 : decode cX2_init 73 = .ok (.dup, 1) := by decide +kernel
theorem dX2_init_74 : decode cX2_init 74 = .ok (.getfield 33, 3) := by decide +kernel
theorem dX2_init_77 : decode cX2_init 77 = .ok (.iconst 1, 1) := by decide +kernel
theorem dX2_init_78 : decode cX2_init 78 = .ok (.iadd, 1) := by decide +kernel
theorem dX2_init_79 : decode cX2_init 79 = .ok (.putfield 33, 3) := by decide +kernel
theorem dX2_init_82 : decode cX2_init 82 = .ok (.iload_n 3, 1) := by decide +kernel
theorem dX2_init_83 : decode cX2_init 83 = .ok (.iload 5, 2) := by decide +kernel
theorem dX2_init_85 : decode cX2_init 85 = .ok (.invokestatic 36, 3) := by decide +kernel
theorem dX2_init_88 : decode cX2_init 88 = .ok (.iconst (-1), 1) := by decide +kernel
theorem dX2_init_89 : decode cX2_init 89 = .ok (.ixor, 1) := by decide +kernel
theorem dX2_init_90 : decode cX2_init 90 = .ok (.iand, 1) := by decide +kernel
theorem dX2_init_91 : decode cX2_init 91 = .ok (.istore_n 3, 1) := by decide +kernel
theorem dX2_init_92 : decode cX2_init 92 = .ok (.iinc 4 1, 3) := by decide +kernel
theorem dX2_init_95 : decode cX2_init 95 = .ok (.goto (-68), 3) := by decide +kernel
theorem dX2_init_98 : decode cX2_init 98 = .ok (.return_, 1) := by decide +kernel
theorem dX2_time_0 : decode cX2_time 0 = .ok (.bipush 20, 2) := by decide +kernel
theorem dX2_time_2 : decode cX2_time 2 = .ok (.newarray .int, 2) := by decide +kernel
theorem dX2_time_4 : decode cX2_time 4 = .ok (.astore_n 1, 1) := by decide +kernel
theorem dX2_time_5 : decode cX2_time 5 = .ok (.iconst 0, 1) := by decide +kernel
theorem dX2_time_6 : decode cX2_time 6 = .ok (.istore_n 2, 1) := by decide +kernel
theorem dX2_time_7 : decode cX2_time 7 = .ok (.iconst 0, 1) := by decide +kernel
theorem dX2_time_8 : decode cX2_time 8 = .ok (.istore_n 3, 1) := by decide +kernel
theorem dX2_time_9 : decode cX2_time 9 = .ok (.iload_n 3, 1) := by decide +kernel
theorem dX2_time_10 : decode cX2_time 10 = .ok (.aload_n 0, 1) := by decide +kernel
theorem dX2_time_11 : decode cX2_time 11 = .ok (.getfield 33, 3) := by decide +kernel
theorem dX2_time_14 : decode cX2_time 14 = .ok (.if_icmp .ge 98, 3) := by decide +kernel
theorem dX2_time_17 : decode cX2_time 17 = .ok (.aload_n 0, 1) := by decide +kernel
theorem dX2_time_18 : decode cX2_time 18 = .ok (.getfield 9, 3) := by decide +kernel
theorem dX2_time_21 : decode cX2_time 21 = .ok (.iload_n 3, 1) := by decide +kernel
theorem dX2_time_22 : decode cX2_time 22 = .ok (.iaload, 1) := by decide +kernel
theorem dX2_time_23 : decode cX2_time 23 = .ok (.istore 4, 2) := by decide +kernel
theorem dX2_time_25 : decode cX2_time 25 = .ok (.aload_n 1, 1) := by decide +kernel
theorem dX2_time_26 : decode cX2_time 26 = .ok (.iload 4, 2) := by decide +kernel
theorem dX2_time_28 : decode cX2_time 28 = .ok (.iaload, 1) := by decide +kernel
theorem dX2_time_29 : decode cX2_time 29 = .ok (.aload_n 0, 1) := by decide +kernel
theorem dX2_time_30 : decode cX2_time 30 = .ok (.getfield 15, 3) := by decide +kernel
theorem dX2_time_33 : decode cX2_time 33 = .ok (.getfield 39, 3) := by decide +kernel
theorem dX2_time_36 : decode cX2_time 36 = .ok (.iload 4, 2) := by decide +kernel
theorem dX2_time_38 : decode cX2_time 38 = .ok (.iaload, 1) := by decide +kernel
theorem dX2_time_39 : decode cX2_time 39 = .ok (.iadd, 1) := by decide +kernel
theorem dX2_time_40 : decode cX2_time 40 = .ok (.istore 5, 2) := by decide +kernel
theorem dX2_time_42 : decode cX2_time 42 = .ok (.iload_n 2, 1) := by decide +kernel
theorem dX2_time_43 : decode cX2_time 43 = .ok (.iload 5, 2) := by decide +kernel
theorem dX2_time_45 : decode cX2_time 45 = .ok (.invokestatic 42, 3) := by decide +kernel
theorem dX2_time_48 : decode cX2_time 48 = .ok (.istore_n 2, 1) := by decide +kernel
theorem dX2_time_49 : decode cX2_time 49 = .ok (.aload_n 0, 1) := by decide +kernel
theorem dX2_time_50 : decode cX2_time 50 = .ok (.getfield 15, 3) := by decide +kernel
theorem dX2_time_53 : decode cX2_time 53 = .ok (.iload 4, 2) := by decide +kernel
theorem dX2_time_55 : decode cX2_time 55 = .ok (.bipush 7, 2) := by decide +kernel
theorem dX2_time_57 : decode cX2_time 57 = .ok (.invokevirtual 47, 3) := by decide +kernel
theorem dX2_time_60 : decode cX2_time 60 = .ok (.aload_n 0, 1) := by decide +kernel
theorem dX2_time_61 : decode cX2_time 61 = .ok (.getfield 19, 3) := by decide +kernel
theorem dX2_time_64 : decode cX2_time 64 = .ok (.iand, 1) := by decide +kernel
theorem dX2_time_65 : decode cX2_time 65 = .ok (.istore 6, 2) := by decide +kernel
theorem dX2_time_67 : decode cX2_time 67 = .ok (.iconst 0, 1) := by decide +kernel
theorem dX2_time_68 : decode cX2_time 68 = .ok (.istore 7, 2) := by decide +kernel
theorem dX2_time_70 : decode cX2_time 70 = .ok (.iload 7, 2) := by decide +kernel
theorem dX2_time_72 : decode cX2_time 72 = .ok (.bipush 20, 2) := by decide +kernel
theorem dX2_time_74 : decode cX2_time 74 = .ok (.if_icmp .ge 32, 3) := by decide +kernel
theorem dX2_time_77 : decode cX2_time 77 = .ok (.iload 6, 2) := by decide +kernel
theorem dX2_time_79 : decode cX2_time 79 = .ok (.iload 7, 2) := by decide +kernel
theorem dX2_time_81 : decode cX2_time 81 = .ok (.invokestatic 50, 3) := by decide +kernel
theorem dX2_time_84 : decode cX2_time 84 = .ok (.ifCond .eq 16, 3) := by decide +kernel
theorem dX2_time_87 : decode cX2_time 87 = .ok (.aload_n 1, 1) := by decide +kernel
theorem dX2_time_88 : decode cX2_time 88 = .ok (.iload 7, 2) := by decide +kernel
theorem dX2_time_90 : decode cX2_time 90 = .ok (.aload_n 1, 1) := by decide +kernel
theorem dX2_time_91 : decode cX2_time 91 = .ok (.iload 7, 2) := by decide +kernel
theorem dX2_time_93 : decode cX2_time 93 = .ok (.iaload, 1) := by decide +kernel
theorem dX2_time_94 : decode cX2_time 94 = .ok (.iload 5, 2) := by decide +kernel
theorem dX2_time_96 : decode cX2_time 96 = .ok (.invokestatic 42, 3) := by decide +kernel
theorem dX2_time_99 : decode cX2_time 99 = .ok (.iastore, 1) := by decide +kernel
theorem dX2_time_100 : decode cX2_time 100 = .ok (.iinc 7 1, 3) := by decide +kernel
theorem dX2_time_103 : decode cX2_time 103 = .ok (.goto (-33), 3) := by decide +kernel
theorem dX2_time_106 : decode cX2_time 106 = .ok (.iinc 3 1, 3) := by decide +kernel
theorem dX2_time_109 : decode cX2_time 109 = .ok (.goto (-100), 3) := by decide +kernel
theorem dX2_time_112 : decode cX2_time 112 = .ok (.iload_n 2, 1) := by decide +kernel
theorem dX2_time_113 : decode cX2_time 113 = .ok (.ireturn, 1) := by decide +kernel
theorem dX3_init_0 : decode cX3_init 0 = .ok (.aload_n 0, 1) := by decide +kernel
theorem dX3_init_1 : decode cX3_init 1 = .ok (.invokespecial 3, 3) := by decide +kernel
theorem dX3_init_4 : decode cX3_init 4 = .ok (.aload_n 0, 1) := by decide +kernel
theorem dX3_init_5 : decode cX3_init 5 = .ok (.bipush 20, 2) := by decide +kernel
theorem dX3_init_7 : decode cX3_init 7 = .ok (.newarray .int, 2) := by decide +kernel
theorem dX3_init_9 : decode cX3_init 9 = .ok (.putfield 9, 3) := by decide +kernel
theorem dX3_init_12 : decode cX3_init 12 = .ok (.aload_n 0, 1) := by decide +kernel
theorem dX3_init_13 : decode cX3_init 13 = .ok (.bipush 10, 2) := by decide +kernel
theorem dX3_init_15 : decode cX3_init 15 = .ok (.newarray .int, 2) := by decide +kernel
theorem dX3_init_17 : decode cX3_init 17 = .ok (.putfield 15, 3) := by decide +kernel
theorem dX3_init_20 : decode cX3_init 20 = .ok (.iload_n 3, 1) := by decide +kernel
theorem dX3_init_21 : decode cX3_init 21 = .ok (.newarray .int, 2) := by decide +kernel
theorem dX3_init_23 : decode cX3_init 23 = .ok (.astore 4, 2) := by decide +kernel
theorem dX3_init_25 : decode cX3_init 25 = .ok (.iload_n 2, 1) := by decide +kernel
theorem dX3_init_26 : decode cX3_init 26 = .ok (.istore 5, 2) := by decide +kernel
theorem dX3_init_28 : decode cX3_init 28 = .ok (.iconst 0, 1) := by decide +kernel
theorem dX3_init_29 : decode cX3_init 29 = .ok (.istore 6, 2) := by decide +kernel
theorem dX3_init_31 : decode cX3_init 31 = .ok (.iload 6, 2) := by decide +kernel
theorem dX3_init_33 : decode cX3_init 33 = .ok (.bipush 10, 2) := by decide +kernel
theorem dX3_init_35 : decode cX3_init 35 = .ok (.if_icmp .ge 98, 3) := by decide +kernel
theorem dX3_init_38 : decode cX3_init 38 = .ok (.iload 5, 2) := by decide +kernel
theorem dX3_init_40 : decode cX3_init 40 = .ok (.ifCond .eq 93, 3) := by decide +kernel
theorem dX3_init_43 : decode cX3_init 43 = .ok (.aload_n 1, 1) := by decide +kernel
theorem dX3_init_44 : decode cX3_init 44 = .ok (.iload 5, 2) := by decide +kernel
theorem dX3_init_46 : decode cX3_init 46 = .ok (.invokevirtual 18, 3) := by decide +kernel
theorem dX3_init_49 : decode cX3_init 49 = .ok (.istore 7, 2) := by decide +kernel
theorem dX3_init_51 : decode cX3_init 51 = .ok (.aload_n 1, 1) := by decide +kernel
theorem dX3_init_52 : decode cX3_init 52 = .ok (.iload 7, 2) := by decide +kernel
theorem dX3_init_54 : decode cX3_init 54 = .ok (.invokevirtual 24, 3) := by decide +kernel
theorem dX3_init_57 : decode cX3_init 57 = .ok (.ifCond .eq 70, 3) := by decide +kernel
theorem dX3_init_60 : decode cX3_init 60 = .ok (.aload 4, 2) := by decide +kernel
theorem dX3_init_62 : decode cX3_init 62 = .ok (.invokestatic 28, 3) := by decide +kernel
theorem dX3_init_65 : decode cX3_init 65 = .ok (.istore 8, 2) := by decide +kernel
theorem dX3_init_67 : decode cX3_init 67 = .ok (.aload_n 0, 1) := by decide +kernel
theorem dX3_init_68 : decode cX3_init 68 = .ok (.getfield 9, 3) := by decide +kernel
theorem dX3_init_71 : decode cX3_init 71 = .ok (.iload 7, 2) := by decide +kernel
theorem dX3_init_73 : decode cX3_init 73 = .ok (.iload 8, 2) := by decide +kernel
theorem dX3_init_75 : decode cX3_init 75 = .ok (.iastore, 1) := by decide +kernel
theorem dX3_init_76 : decode cX3_init 76 = .ok (.aload 4, 2) := by decide +kernel
theorem dX3_init_78 : decode cX3_init 78 = .ok (.iload 8, 2) := by decide +kernel
theorem dX3_init_80 : decode cX3_init 80 = .ok (.dup2, 1) := by decide +kernel
theorem dX3_init_81 : decode cX3_init 81 = .ok (.iaload, 1) := by decide +kernel
theorem dX3_init_82 : decode cX3_init 82 = .ok (.aload_n 1, 1) := by decide +kernel
theorem dX3_init_83 : decode cX3_init 83 = .ok (.getfield 32, 3) := by decide +kernel
theorem dX3_init_86 : decode cX3_init 86 = .ok (.iload 7, 2) := by decide +kernel
theorem dX3_init_88 : decode cX3_init 88 = .ok (.iaload, 1) := by decide +kernel
theorem dX3_init_89 : decode cX3_init 89 = .ok (.iadd, 1) := by decide +kernel
theorem dX3_init_90 : decode cX3_init 90 = .ok (.iastore, 1) := by decide +kernel
theorem dX3_init_91 : decode cX3_init 91 = .ok (.aload_n 0, 1) := by decide +kernel
theorem dX3_init_92 : decode cX3_init 92 = .ok (.getfield 15, 3) := by decide +kernel
theorem dX3_init_95 : decode cX3_init 95 = .ok (.iload 6, 2) := by decide +kernel
theorem dX3_init_97 : decode cX3_init 97 = .ok (.aload_n 1, 1) := by decide +kernel
theorem dX3_init_98 : decode cX3_init 98 = .ok (.getfield 32, 3) := by decide +kernel
theorem dX3_init_101 : decode cX3_init 101 = .ok (.iload 7, 2) := by decide +kernel
theorem dX3_init_103 : decode cX3_init 103 = .ok (.iaload, 1) := by decide +kernel
theorem dX3_init_104 : decode cX3_init 104 = .ok (.iastore, 1) := by decide +kernel
theorem dX3_init_105 : decode cX3_init 105 = .ok (.aload_n 0, 1) := by decide +kernel
theorem dX3_init_106 : decode cX3_init 106 = .ok (.dup, 1) := by decide +kernel
theorem dX3_init_107 : decode cX3_init 107 = .ok (.getfield 35, 3) := by decide +kernel
theorem dX3_init_110 : decode cX3_init 110 = .ok (.iconst 1, 1) := by decide +kernel
theorem dX3_init_111 : decode cX3_init 111 = .ok (.iadd, 1) := by decide +kernel
theorem dX3_init_112 : decode cX3_init 112 = .ok (.putfield 35, 3) := by decide +kernel
theorem dX3_init_115 : decode cX3_init 115 = .ok (.iload 5, 2) := by decide +kernel
theorem dX3_init_117 : decode cX3_init 117 = .ok (.iload 7, 2) := by decide +kernel
theorem dX3_init_119 : decode cX3_init 119 = .ok (.invokestatic 39, 3) := by decide +kernel
theorem dX3_init_122 : decode cX3_init 122 = .ok (.iconst (-1), 1) := by decide +kernel
theorem dX3_init_123 : decode cX3_init 123 = .ok (.ixor, 1) := by decide +kernel
theorem dX3_init_124 : decode cX3_init 124 = .ok (.iand, 1) := by decide +kernel
theorem dX3_init_125 : decode cX3_init 125 = .ok (.istore 5, 2) := by decide +kernel
theorem dX3_init_127 : decode cX3_init 127 = .ok (.iinc 6 1, 3) := by decide +kernel
theorem dX3_init_130 : decode cX3_init 130 = .ok (.goto (-99), 3) := by decide +kernel
theorem dX3_init_133 : decode cX3_init 133 = .ok (.aload_n 0, 1) := by decide +kernel
theorem dX3_init_134 : decode cX3_init 134 = .ok (.aload 4, 2) := by decide +kernel
theorem dX3_init_136 : decode cX3_init 136 = .ok (.putfield 42, 3) := by decide +kernel
theorem dX3_init_139 : decode cX3_init 139 = .ok (.return_, 1) := by decide +kernel
theorem dX3_leastGreatestLoad_0 : decode cX3_leastGreatestLoad 0 = .ok (.aload_n 0, 1) := by decide +kernel
theorem dX3_leastGreatestLoad_1 : decode cX3_leastGreatestLoad 1 = .ok (.getfield 15, 3) := by decide +kernel
theorem dX3_leastGreatestLoad_4 : decode cX3_leastGreatestLoad 4 = .ok (.aload_n 0, 1) := by decide +kernel
theorem dX3_leastGreatestLoad_5 : decode cX3_leastGreatestLoad 5 = .ok (.getfield 35, 3) := by decide +kernel
theorem dX3_leastGreatestLoad_8 : decode cX3_leastGreatestLoad 8 = .ok (.iconst 0, 1) := by decide +kernel
theorem dX3_leastGreatestLoad_9 : decode cX3_leastGreatestLoad 9 = .ok (.aload_n 0, 1) := by decide +kernel
theorem dX3_leastGreatestLoad_10 : decode cX3_leastGreatestLoad 10 = .ok (.getfield 42, 3) := by decide +kernel
theorem dX3_leastGreatestLoad_13 : decode cX3_leastGreatestLoad 13 = .ok (.arraylength, 1) := by decide +kernel
theorem dX3_leastGreatestLoad_14 : decode cX3_leastGreatestLoad 14 = .ok (.newarray .int, 2) := by decide +kernel
theorem dX3_leastGreatestLoad_16 : decode cX3_leastGreatestLoad 16 = .ok (.aload_n 0, 1) := by decide +kernel
theorem dX3_leastGreatestLoad_17 : decode cX3_leastGreatestLoad 17 = .ok (.getfield 42, 3) := by decide +kernel
theorem dX3_leastGreatestLoad_20 : decode cX3_leastGreatestLoad 20 = .ok (.invokestatic 45, 3) := by decide +kernel
theorem dX3_leastGreatestLoad_23 : decode cX3_leastGreatestLoad 23 = .ok (.invokestatic 48, 3) := by decide +kernel
theorem dX3_leastGreatestLoad_26 : decode cX3_leastGreatestLoad 26 = .ok (.ireturn, 1) := by decide +kernel
theorem dX3_improve_0 : decode cX3_improve 0 = .ok (.iload_n 2, 1) := by decide +kernel
theorem dX3_improve_1 : decode cX3_improve 1 = .ok (.iload_n 1, 1) := by decide +kernel
theorem dX3_improve_2 : decode cX3_improve 2 = .ok (.if_icmp .ge 9, 3) := by decide +kernel
theorem dX3_improve_5 : decode cX3_improve 5 = .ok (.iload_n 2, 1) := by decide +kernel
theorem dX3_improve_6 : decode cX3_improve 6 = .ok (.bipush 10, 2) := by decide +kernel
theorem dX3_improve_8 : decode cX3_improve 8 = .ok (.if_icmp .lt 13, 3) := by decide +kernel
theorem dX3_improve_11 : decode cX3_improve 11 = .ok (.aload_n 3, 1) := by decide +kernel
theorem dX3_improve_12 : decode cX3_improve 12 = .ok (.invokestatic 45, 3) := by decide +kernel
theorem dX3_improve_15 : decode cX3_improve 15 = .ok (.iload 4, 2) := by decide +kernel
theorem dX3_improve_17 : decode cX3_improve 17 = .ok (.invokestatic 52, 3) := by decide +kernel
theorem dX3_improve_20 : decode cX3_improve 20 = .ok (.ireturn, 1) := by decide +kernel
theorem dX3_improve_21 : decode cX3_improve 21 = .ok (.iload 4, 2) := by decide +kernel
theorem dX3_improve_23 : decode cX3_improve 23 = .ok (.istore 5, 2) := by decide +kernel
theorem dX3_improve_25 : decode cX3_improve 25 = .ok (.iconst 0, 1) := by decide +kernel
theorem dX3_improve_26 : decode cX3_improve 26 = .ok (.istore 6, 2) := by decide +kernel
theorem dX3_improve_28 : decode cX3_improve 28 = .ok (.iload 6, 2) := by decide +kernel
theorem dX3_improve_30 : decode cX3_improve 30 = .ok (.aload_n 3, 1) := by decide +kernel
theorem dX3_improve_31 : decode cX3_improve 31 = .ok (.arraylength, 1) := by decide +kernel
theorem dX3_improve_32 : decode cX3_improve 32 = .ok (.if_icmp .ge 64, 3) := by decide +kernel
theorem dX3_improve_35 : decode cX3_improve 35 = .ok (.aload_n 3, 1) := by decide +kernel
theorem dX3_improve_36 : decode cX3_improve 36 = .ok (.iload 6, 2) := by decide +kernel
theorem dX3_improve_38 : decode cX3_improve 38 = .ok (.iaload, 1) := by decide +kernel
theorem dX3_improve_39 : decode cX3_improve 39 = .ok (.istore 7, 2) := by decide +kernel
theorem dX3_improve_41 : decode cX3_improve 41 = .ok (.iload 7, 2) := by decide +kernel
theorem dX3_improve_43 : decode cX3_improve 43 = .ok (.aload_n 0, 1) := by decide +kernel
theorem dX3_improve_44 : decode cX3_improve 44 = .ok (.iload_n 2, 1) := by decide +kernel
theorem dX3_improve_45 : decode cX3_improve 45 = .ok (.iaload, 1) := by decide +kernel
theorem dX3_improve_46 : decode cX3_improve 46 = .ok (.iadd, 1) := by decide +kernel
theorem dX3_improve_47 : decode cX3_improve 47 = .ok (.iload 5, 2) := by decide +kernel
theorem dX3_improve_49 : decode cX3_improve 49 = .ok (.if_icmp .ge 41, 3) := by decide +kernel
theorem dX3_improve_52 : decode cX3_improve 52 = .ok (.aload_n 3, 1) := by decide +kernel
theorem dX3_improve_53 : decode cX3_improve 53 = .ok (.iload 6, 2) := by decide +kernel
theorem dX3_improve_55 : decode cX3_improve 55 = .ok (.invokestatic 58, 3) := by decide +kernel
theorem dX3_improve_58 : decode cX3_improve 58 = .ok (.ifCond .ne 32, 3) := by decide +kernel
theorem dX3_improve_61 : decode cX3_improve 61 = .ok (.aload_n 3, 1) := by decide +kernel
theorem dX3_improve_62 : decode cX3_improve 62 = .ok (.iload 6, 2) := by decide +kernel
theorem dX3_improve_64 : decode cX3_improve 64 = .ok (.iload 7, 2) := by decide +kernel
theorem dX3_improve_66 : decode cX3_improve 66 = .ok (.aload_n 0, 1) := by decide +kernel
theorem dX3_improve_67 : decode cX3_improve 67 = .ok (.iload_n 2, 1) := by decide +kernel
theorem dX3_improve_68 : decode cX3_improve 68 = .ok (.iaload, 1) := by decide +kernel
theorem dX3_improve_69 : decode cX3_improve 69 = .ok (.iadd, 1) := by decide +kernel
theorem dX3_improve_70 : decode cX3_improve 70 = .ok (.iastore, 1) := by decide +kernel
theorem dX3_improve_71 : decode cX3_improve 71 = .ok (.aload_n 0, 1) := by decide +kernel
theorem dX3_improve_72 : decode cX3_improve 72 = .ok (.iload_n 1, 1) := by decide +kernel
theorem dX3_improve_73 : decode cX3_improve 73 = .ok (.iload_n 2, 1) := by decide +kernel
theorem dX3_improve_74 : decode cX3_improve 74 = .ok (.iconst 1, 1) := by decide +kernel
theorem dX3_improve_75 : decode cX3_improve 75 = .ok (.iadd, 1) := by decide +kernel
theorem dX3_improve_76 : decode cX3_improve 76 = .ok (.aload_n 3, 1) := by decide +kernel
theorem dX3_improve_77 : decode cX3_improve 77 = .ok (.iload 5, 2) := by decide +kernel
theorem dX3_improve_79 : decode cX3_improve 79 = .ok (.invokestatic 48, 3) := by decide +kernel
theorem dX3_improve_82 : decode cX3_improve 82 = .ok (.istore 5, 2) := by decide +kernel
theorem dX3_improve_84 : decode cX3_improve 84 = .ok (.aload_n 3, 1) := by decide +kernel
theorem dX3_improve_85 : decode cX3_improve 85 = .ok (.iload 6, 2) := by decide +kernel
theorem dX3_improve_87 : decode cX3_improve 87 = .ok (.iload 7, 2) := by decide +kernel
theorem dX3_improve_89 : decode cX3_improve 89 = .ok (.iastore, 1) := by decide +kernel
theorem dX3_improve_90 : decode cX3_improve 90 = .ok (.iinc 6 1, 3) := by decide +kernel
theorem dX3_improve_93 : decode cX3_improve 93 = .ok (.goto (-65), 3) := by decide +kernel
theorem dX3_improve_96 : decode cX3_improve 96 = .ok (.iload 5, 2) := by decide +kernel
theorem dX3_improve_98 : decode cX3_improve 98 = .ok (.ireturn, 1) := by decide +kernel
theorem dX3_standsBefore_0 : decode cX3_standsBefore 0 = .ok (.iconst 0, 1) := by decide +kernel
theorem dX3_standsBefore_1 : decode cX3_standsBefore 1 = .ok (.istore_n 2, 1) := by decide +kernel
theorem dX3_standsBefore_2 : decode cX3_standsBefore 2 = .ok (.iload_n 2, 1) := by decide +kernel
theorem dX3_standsBefore_3 : decode cX3_standsBefore 3 = .ok (.iload_n 1, 1) := by decide +kernel
theorem dX3_standsBefore_4 : decode cX3_standsBefore 4 = .ok (.if_icmp .ge 20, 3) := by decide +kernel
theorem dX3_standsBefore_7 : decode cX3_standsBefore 7 = .ok (.aload_n 0, 1) := by decide +kernel
theorem dX3_standsBefore_8 : decode cX3_standsBefore 8 = .ok (.iload_n 2, 1) := by decide +kernel
theorem dX3_standsBefore_9 : decode cX3_standsBefore 9 = .ok (.iaload, 1) := by decide +kernel
theorem dX3_standsBefore_10 : decode cX3_standsBefore 10 = .ok (.aload_n 0, 1) := by decide +kernel
theorem dX3_standsBefore_11 : decode cX3_standsBefore 11 = .ok (.iload_n 1, 1) := by decide +kernel
theorem dX3_standsBefore_12 : decode cX3_standsBefore 12 = .ok (.iaload, 1) := by decide +kernel
theorem dX3_standsBefore_13 : decode cX3_standsBefore 13 = .ok (.if_icmp .ne 5, 3) := by decide +kernel
theorem dX3_standsBefore_16 : decode cX3_standsBefore 16 = .ok (.iconst 1, 1) := by decide +kernel
theorem dX3_standsBefore_17 : decode cX3_standsBefore 17 = .ok (.ireturn, 1) := by decide +kernel
theorem dX3_standsBefore_18 : decode cX3_standsBefore 18 = .ok (.iinc 2 1, 3) := by decide +kernel
theorem dX3_standsBefore_21 : decode cX3_standsBefore 21 = .ok (.goto (-19), 3) := by decide +kernel
theorem dX3_standsBefore_24 : decode cX3_standsBefore 24 = .ok (.iconst 0, 1) := by decide +kernel
theorem dX3_standsBefore_25 : decode cX3_standsBefore 25 = .ok (.ireturn, 1) := by decide +kernel
theorem dX3_leastLoaded_0 : decode cX3_leastLoaded 0 = .ok (.iconst 0, 1) := by decide +kernel
theorem dX3_leastLoaded_1 : decode cX3_leastLoaded 1 = .ok (.istore_n 1, 1) := by decide +kernel
theorem dX3_leastLoaded_2 : decode cX3_leastLoaded 2 = .ok (.iconst 1, 1) := by decide +kernel
theorem dX3_leastLoaded_3 : decode cX3_leastLoaded 3 = .ok (.istore_n 2, 1) := by decide +kernel
theorem dX3_leastLoaded_4 : decode cX3_leastLoaded 4 = .ok (.iload_n 2, 1) := by decide +kernel
theorem dX3_leastLoaded_5 : decode cX3_leastLoaded 5 = .ok (.aload_n 0, 1) := by decide +kernel
theorem dX3_leastLoaded_6 : decode cX3_leastLoaded 6 = .ok (.arraylength, 1) := by decide +kernel
theorem dX3_leastLoaded_7 : decode cX3_leastLoaded 7 = .ok (.if_icmp .ge 20, 3) := by decide +kernel
theorem dX3_leastLoaded_10 : decode cX3_leastLoaded 10 = .ok (.aload_n 0, 1) := by decide +kernel
theorem dX3_leastLoaded_11 : decode cX3_leastLoaded 11 = .ok (.iload_n 2, 1) := by decide +kernel
theorem dX3_leastLoaded_12 : decode cX3_leastLoaded 12 = .ok (.iaload, 1) := by decide +kernel
theorem dX3_leastLoaded_13 : decode cX3_leastLoaded 13 = .ok (.aload_n 0, 1) := by decide +kernel
theorem dX3_leastLoaded_14 : decode cX3_leastLoaded 14 = .ok (.iload_n 1, 1) := by decide +kernel
theorem dX3_leastLoaded_15 : decode cX3_leastLoaded 15 = .ok (.iaload, 1) := by decide +kernel
theorem dX3_leastLoaded_16 : decode cX3_leastLoaded 16 = .ok (.if_icmp .ge 5, 3) := by decide +kernel
theorem dX3_leastLoaded_19 : decode cX3_leastLoaded 19 = .ok (.iload_n 2, 1) := by decide +kernel
theorem dX3_leastLoaded_20 : decode cX3_leastLoaded 20 = .ok (.istore_n 1, 1) := by decide +kernel
theorem dX3_leastLoaded_21 : decode cX3_leastLoaded 21 = .ok (.iinc 2 1, 3) := by decide +kernel
theorem dX3_leastLoaded_24 : decode cX3_leastLoaded 24 = .ok (.goto (-20), 3) := by decide +kernel
theorem dX3_leastLoaded_27 : decode cX3_leastLoaded 27 = .ok (.iload_n 1, 1) := by decide +kernel
theorem dX3_leastLoaded_28 : decode cX3_leastLoaded 28 = .ok (.ireturn, 1) := by decide +kernel
theorem dX3_greatest_0 : decode cX3_greatest 0 = .ok (.iconst 0, 1) := by decide +kernel
theorem dX3_greatest_1 : decode cX3_greatest 1 = .ok (.istore_n 1, 1) := by decide +kernel
theorem dX3_greatest_2 : decode cX3_greatest 2 = .ok (.iconst 0, 1) := by decide +kernel
theorem dX3_greatest_3 : decode cX3_greatest 3 = .ok (.istore_n 2, 1) := by decide +kernel
theorem dX3_greatest_4 : decode cX3_greatest 4 = .ok (.iload_n 2, 1) := by decide +kernel
theorem dX3_greatest_5 : decode cX3_greatest 5 = .ok (.aload_n 0, 1) := by decide +kernel
theorem dX3_greatest_6 : decode cX3_greatest 6 = .ok (.arraylength, 1) := by decide +kernel
theorem dX3_greatest_7 : decode cX3_greatest 7 = .ok (.if_icmp .ge 17, 3) := by decide +kernel
theorem dX3_greatest_10 : decode cX3_greatest 10 = .ok (.iload_n 1, 1) := by decide +kernel
theorem dX3_greatest_11 : decode cX3_greatest 11 = .ok (.aload_n 0, 1) := by decide +kernel
theorem dX3_greatest_12 : decode cX3_greatest 12 = .ok (.iload_n 2, 1) := by decide +kernel
theorem dX3_greatest_13 : decode cX3_greatest 13 = .ok (.iaload, 1) := by decide +kernel
theorem dX3_greatest_14 : decode cX3_greatest 14 = .ok (.invokestatic 62, 3) := by decide +kernel
theorem dX3_greatest_17 : decode cX3_greatest 17 = .ok (.istore_n 1, 1) := by decide +kernel
theorem dX3_greatest_18 : decode cX3_greatest 18 = .ok (.iinc 2 1, 3) := by decide +kernel
theorem dX3_greatest_21 : decode cX3_greatest 21 = .ok (.goto (-17), 3) := by decide +kernel
theorem dX3_greatest_24 : decode cX3_greatest 24 = .ok (.iload_n 1, 1) := by decide +kernel
theorem dX3_greatest_25 : decode cX3_greatest 25 = .ok (.ireturn, 1) := by decide +kernel
theorem dX4_init_0 : decode cX4_init 0 = .ok (.aload_n 0, 1) := by decide +kernel
theorem dX4_init_1 : decode cX4_init 1 = .ok (.invokespecial 3, 3) := by decide +kernel
theorem dX4_init_4 : decode cX4_init 4 = .ok (.aload_n 0, 1) := by decide +kernel
theorem dX4_init_5 : decode cX4_init 5 = .ok (.new 9, 3) := by decide +kernel
theorem dX4_init_8 : decode cX4_init 8 = .ok (.dup, 1) := by decide +kernel
theorem dX4_init_9 : decode cX4_init 9 = .ok (.invokespecial 11, 3) := by decide +kernel
theorem dX4_init_12 : decode cX4_init 12 = .ok (.putfield 12, 3) := by decide +kernel
theorem dX4_init_15 : decode cX4_init 15 = .ok (.aload_n 0, 1) := by decide +kernel
theorem dX4_init_16 : decode cX4_init 16 = .ok (.new 18, 3) := by decide +kernel
theorem dX4_init_19 : decode cX4_init 19 = .ok (.dup, 1) := by decide +kernel
theorem dX4_init_20 : decode cX4_init 20 = .ok (.invokespecial 20, 3) := by decide +kernel
theorem dX4_init_23 : decode cX4_init 23 = .ok (.putfield 21, 3) := by decide +kernel
theorem dX4_init_26 : decode cX4_init 26 = .ok (.return_, 1) := by decide +kernel
theorem dX4_copyFrom_0 : decode cX4_copyFrom 0 = .ok (.aload_n 0, 1) := by decide +kernel
theorem dX4_copyFrom_1 : decode cX4_copyFrom 1 = .ok (.getfield 12, 3) := by decide +kernel
theorem dX4_copyFrom_4 : decode cX4_copyFrom 4 = .ok (.aload_n 1, 1) := by decide +kernel
theorem dX4_copyFrom_5 : decode cX4_copyFrom 5 = .ok (.getfield 12, 3) := by decide +kernel
theorem dX4_copyFrom_8 : decode cX4_copyFrom 8 = .ok (.invokevirtual 25, 3) := by decide +kernel
theorem dX4_copyFrom_11 : decode cX4_copyFrom 11 = .ok (.aload_n 0, 1) := by decide +kernel
theorem dX4_copyFrom_12 : decode cX4_copyFrom 12 = .ok (.getfield 21, 3) := by decide +kernel
theorem dX4_copyFrom_15 : decode cX4_copyFrom 15 = .ok (.aload_n 1, 1) := by decide +kernel
theorem dX4_copyFrom_16 : decode cX4_copyFrom 16 = .ok (.getfield 21, 3) := by decide +kernel
theorem dX4_copyFrom_19 : decode cX4_copyFrom 19 = .ok (.invokevirtual 29, 3) := by decide +kernel
theorem dX4_copyFrom_22 : decode cX4_copyFrom 22 = .ok (.aload_n 0, 1) := by decide +kernel
theorem dX4_copyFrom_23 : decode cX4_copyFrom 23 = .ok (.aload_n 1, 1) := by decide +kernel
theorem dX4_copyFrom_24 : decode cX4_copyFrom 24 = .ok (.getfield 32, 3) := by decide +kernel
theorem dX4_copyFrom_27 : decode cX4_copyFrom 27 = .ok (.putfield 32, 3) := by decide +kernel
theorem dX4_copyFrom_30 : decode cX4_copyFrom 30 = .ok (.return_, 1) := by decide +kernel
theorem dX4_touchBy_0 : decode cX4_touchBy 0 = .ok (.aload_n 0, 1) := by decide +kernel
theorem dX4_touchBy_1 : decode cX4_touchBy 1 = .ok (.getfield 21, 3) := by decide +kernel
theorem dX4_touchBy_4 : decode cX4_touchBy 4 = .ok (.getfield 36, 3) := by decide +kernel
theorem dX4_touchBy_7 : decode cX4_touchBy 7 = .ok (.iload_n 1, 1) := by decide +kernel
theorem dX4_touchBy_8 : decode cX4_touchBy 8 = .ok (.baload, 1) := by decide +kernel
theorem dX4_touchBy_9 : decode cX4_touchBy 9 = .ok (.ifCond .eq 7, 3) := by decide +kernel
theorem dX4_touchBy_12 : decode cX4_touchBy 12 = .ok (.iconst 0, 1) := by decide +kernel
theorem dX4_touchBy_13 : decode cX4_touchBy 13 = .ok (.goto 4, 3) := by decide +kernel
theorem dX4_touchBy_16 : decode cX4_touchBy 16 = .ok (.iconst 1, 1) := by decide +kernel
theorem dX4_touchBy_17 : decode cX4_touchBy 17 = .ok (.istore_n 2, 1) := by decide +kernel
theorem dX4_touchBy_18 : decode cX4_touchBy 18 = .ok (.aload_n 0, 1) := by decide +kernel
theorem dX4_touchBy_19 : decode cX4_touchBy 19 = .ok (.dup, 1) := by decide +kernel
theorem dX4_touchBy_20 : decode cX4_touchBy 20 = .ok (.getfield 32, 3) := by decide +kernel
theorem dX4_touchBy_23 : decode cX4_touchBy 23 = .ok (.aload_n 0, 1) := by decide +kernel
theorem dX4_touchBy_24 : decode cX4_touchBy 24 = .ok (.getfield 21, 3) := by decide +kernel
theorem dX4_touchBy_27 : decode cX4_touchBy 27 = .ok (.getfield 40, 3) := by decide +kernel
theorem dX4_touchBy_30 : decode cX4_touchBy 30 = .ok (.iload_n 1, 1) := by decide +kernel
theorem dX4_touchBy_31 : decode cX4_touchBy 31 = .ok (.iaload, 1) := by decide +kernel
theorem dX4_touchBy_32 : decode cX4_touchBy 32 = .ok (.invokestatic 44, 3) := by decide +kernel
theorem dX4_touchBy_35 : decode cX4_touchBy 35 = .ok (.iload_n 2, 1) := by decide +kernel
theorem dX4_touchBy_36 : decode cX4_touchBy 36 = .ok (.invokestatic 48, 3) := by decide +kernel
theorem dX4_touchBy_39 : decode cX4_touchBy 39 = .ok (.lor, 1) := by decide +kernel
theorem dX4_touchBy_40 : decode cX4_touchBy 40 = .ok (.putfield 32, 3) := by decide +kernel
theorem dX4_touchBy_43 : decode cX4_touchBy 43 = .ok (.return_, 1) := by decide +kernel
theorem dX4_rebuilt_0 : decode cX4_rebuilt 0 = .ok (.aload_n 0, 1) := by decide +kernel
theorem dX4_rebuilt_1 : decode cX4_rebuilt 1 = .ok (.getfield 12, 3) := by decide +kernel
theorem dX4_rebuilt_4 : decode cX4_rebuilt 4 = .ok (.aload_n 0, 1) := by decide +kernel
theorem dX4_rebuilt_5 : decode cX4_rebuilt 5 = .ok (.getfield 32, 3) := by decide +kernel
theorem dX4_rebuilt_8 : decode cX4_rebuilt 8 = .ok (.invokevirtual 52, 3) := by decide +kernel
theorem dX4_rebuilt_11 : decode cX4_rebuilt 11 = .ok (.iconst 1, 1) := by decide +kernel
theorem dX4_rebuilt_12 : decode cX4_rebuilt 12 = .ok (.invokestatic 56, 3) := by decide +kernel
theorem dX4_rebuilt_15 : decode cX4_rebuilt 15 = .ok (.ireturn, 1) := by decide +kernel
theorem dX4_testsToRun_0 : decode cX4_testsToRun 0 = .ok (.aload_n 0, 1) := by decide +kernel
theorem dX4_testsToRun_1 : decode cX4_testsToRun 1 = .ok (.getfield 12, 3) := by decide +kernel
theorem dX4_testsToRun_4 : decode cX4_testsToRun 4 = .ok (.aload_n 0, 1) := by decide +kernel
theorem dX4_testsToRun_5 : decode cX4_testsToRun 5 = .ok (.invokevirtual 60, 3) := by decide +kernel
theorem dX4_testsToRun_8 : decode cX4_testsToRun 8 = .ok (.bipush 11, 2) := by decide +kernel
theorem dX4_testsToRun_10 : decode cX4_testsToRun 10 = .ok (.invokevirtual 64, 3) := by decide +kernel
theorem dX4_testsToRun_13 : decode cX4_testsToRun 13 = .ok (.aload_n 0, 1) := by decide +kernel
theorem dX4_testsToRun_14 : decode cX4_testsToRun 14 = .ok (.getfield 12, 3) := by decide +kernel
theorem dX4_testsToRun_17 : decode cX4_testsToRun 17 = .ok (.getfield 68, 3) := by decide +kernel
theorem dX4_testsToRun_20 : decode cX4_testsToRun 20 = .ok (.iconst 2, 1) := by decide +kernel
theorem dX4_testsToRun_21 : decode cX4_testsToRun 21 = .ok (.iaload, 1) := by decide +kernel
theorem dX4_testsToRun_22 : decode cX4_testsToRun 22 = .ok (.iand, 1) := by decide +kernel
theorem dX4_testsToRun_23 : decode cX4_testsToRun 23 = .ok (.ireturn, 1) := by decide +kernel
