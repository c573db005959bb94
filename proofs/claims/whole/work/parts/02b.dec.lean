theorem dX5_init_0 : decode cX5_init 0 = .ok (.aload_n 0, 1) := by decide +kernel
theorem dX5_init_1 : decode cX5_init 1 = .ok (.invokespecial 3, 3) := by decide +kernel
theorem dX5_init_4 : decode cX5_init 4 = .ok (.aload_n 0, 1) := by decide +kernel
theorem dX5_init_5 : decode cX5_init 5 = .ok (.bipush 20, 2) := by decide +kernel
theorem dX5_init_7 : decode cX5_init 7 = .ok (.newarray .int, 2) := by decide +kernel
theorem dX5_init_9 : decode cX5_init 9 = .ok (.putfield 9, 3) := by decide +kernel
theorem dX5_init_12 : decode cX5_init 12 = .ok (.aload_n 0, 1) := by decide +kernel
theorem dX5_init_13 : decode cX5_init 13 = .ok (.iconst 3, 1) := by decide +kernel
theorem dX5_init_14 : decode cX5_init 14 = .ok (.newarray .int, 2) := by decide +kernel
theorem dX5_init_16 : decode cX5_init 16 = .ok (.putfield 15, 3) := by decide +kernel
theorem dX5_init_19 : decode cX5_init 19 = .ok (.aload_n 0, 1) := by decide +kernel
theorem dX5_init_20 : decode cX5_init 20 = .ok (.iconst 4, 1) := by decide +kernel
theorem dX5_init_21 : decode cX5_init 21 = .ok (.bipush 20, 2) := by decide +kernel
theorem dX5_init_23 : decode cX5_init 23 = .ok (.multianewarray 18 2, 4) := by decide +kernel
theorem dX5_init_27 : decode cX5_init 27 = .ok (.putfield 20, 3) := by decide +kernel
theorem dX5_init_30 : decode cX5_init 30 = .ok (.return_, 1) := by decide +kernel
theorem dX5_copyFrom_0 : decode cX5_copyFrom 0 = .ok (.aload_n 0, 1) := by decide +kernel
theorem dX5_copyFrom_1 : decode cX5_copyFrom 1 = .ok (.aload_n 1, 1) := by decide +kernel
theorem dX5_copyFrom_2 : decode cX5_copyFrom 2 = .ok (.getfield 23, 3) := by decide +kernel
theorem dX5_copyFrom_5 : decode cX5_copyFrom 5 = .ok (.putfield 23, 3) := by decide +kernel
theorem dX5_copyFrom_8 : decode cX5_copyFrom 8 = .ok (.aload_n 0, 1) := by decide +kernel
theorem dX5_copyFrom_9 : decode cX5_copyFrom 9 = .ok (.aload_n 1, 1) := by decide +kernel
theorem dX5_copyFrom_10 : decode cX5_copyFrom 10 = .ok (.getfield 27, 3) := by decide +kernel
theorem dX5_copyFrom_13 : decode cX5_copyFrom 13 = .ok (.putfield 27, 3) := by decide +kernel
theorem dX5_copyFrom_16 : decode cX5_copyFrom 16 = .ok (.aload_n 1, 1) := by decide +kernel
theorem dX5_copyFrom_17 : decode cX5_copyFrom 17 = .ok (.getfield 9, 3) := by decide +kernel
theorem dX5_copyFrom_20 : decode cX5_copyFrom 20 = .ok (.iconst 0, 1) := by decide +kernel
theorem dX5_copyFrom_21 : decode cX5_copyFrom 21 = .ok (.aload_n 0, 1) := by decide +kernel
theorem dX5_copyFrom_22 : decode cX5_copyFrom 22 = .ok (.getfield 9, 3) := by decide +kernel
theorem dX5_copyFrom_25 : decode cX5_copyFrom 25 = .ok (.iconst 0, 1) := by decide +kernel
theorem dX5_copyFrom_26 : decode cX5_copyFrom 26 = .ok (.bipush 20, 2) := by decide +kernel
theorem dX5_copyFrom_28 : decode cX5_copyFrom 28 = .ok (.invokestatic 30, 3) := by decide +kernel
theorem dX5_copyFrom_31 : decode cX5_copyFrom 31 = .ok (.aload_n 1, 1) := by decide +kernel
theorem dX5_copyFrom_32 : decode cX5_copyFrom 32 = .ok (.getfield 15, 3) := by decide +kernel
theorem dX5_copyFrom_35 : decode cX5_copyFrom 35 = .ok (.iconst 0, 1) := by decide +kernel
theorem dX5_copyFrom_36 : decode cX5_copyFrom 36 = .ok (.aload_n 0, 1) := by decide +kernel
theorem dX5_copyFrom_37 : decode cX5_copyFrom 37 = .ok (.getfield 15, 3) := by decide +kernel
theorem dX5_copyFrom_40 : decode cX5_copyFrom 40 = .ok (.iconst 0, 1) := by decide +kernel
theorem dX5_copyFrom_41 : decode cX5_copyFrom 41 = .ok (.iconst 3, 1) := by decide +kernel
theorem dX5_copyFrom_42 : decode cX5_copyFrom 42 = .ok (.invokestatic 30, 3) := by decide +kernel
theorem dX5_copyFrom_45 : decode cX5_copyFrom 45 = .ok (.iconst 0, 1) := by decide +kernel
theorem dX5_copyFrom_46 : decode cX5_copyFrom 46 = .ok (.istore_n 2, 1) := by decide +kernel
theorem dX5_copyFrom_47 : decode cX5_copyFrom 47 = .ok (.iload_n 2, 1) := by decide +kernel
theorem dX5_copyFrom_48 : decode cX5_copyFrom 48 = .ok (.iconst 4, 1) := by decide +kernel
theorem dX5_copyFrom_49 : decode cX5_copyFrom 49 = .ok (.if_icmp .ge 28, 3) := by decide +kernel
theorem dX5_copyFrom_52 : decode cX5_copyFrom 52 = .ok (.aload_n 1, 1) := by decide +kernel
theorem dX5_copyFrom_53 : decode cX5_copyFrom 53 = .ok (.getfield 20, 3) := by decide +kernel
theorem dX5_copyFrom_56 : decode cX5_copyFrom 56 = .ok (.iload_n 2, 1) := by decide +kernel
theorem dX5_copyFrom_57 : decode cX5_copyFrom 57 = .ok (.aaload, 1) := by decide +kernel
theorem dX5_copyFrom_58 : decode cX5_copyFrom 58 = .ok (.iconst 0, 1) := by decide +kernel
theorem dX5_copyFrom_59 : decode cX5_copyFrom 59 = .ok (.aload_n 0, 1) := by decide +kernel
theorem dX5_copyFrom_60 : decode cX5_copyFrom 60 = .ok (.getfield 20, 3) := by decide +kernel
theorem dX5_copyFrom_63 : decode cX5_copyFrom 63 = .ok (.iload_n 2, 1) := by decide +kernel
theorem dX5_copyFrom_64 : decode cX5_copyFrom 64 = .ok (.aaload, 1) := by decide +kernel
theorem dX5_copyFrom_65 : decode cX5_copyFrom 65 = .ok (.iconst 0, 1) := by decide +kernel
theorem dX5_copyFrom_66 : decode cX5_copyFrom 66 = .ok (.bipush 20, 2) := by decide +kernel
theorem dX5_copyFrom_68 : decode cX5_copyFrom 68 = .ok (.invokestatic 30, 3) := by decide +kernel
theorem dX5_copyFrom_71 : decode cX5_copyFrom 71 = .ok (.iinc 2 1, 3) := by decide +kernel
theorem dX5_copyFrom_74 : decode cX5_copyFrom 74 = .ok (.goto (-27), 3) := by decide +kernel
theorem dX5_copyFrom_77 : decode cX5_copyFrom 77 = .ok (.return_, 1) := by decide +kernel
theorem dX5_has_0 : decode cX5_has 0 = .ok (.iload_n 1, 1) := by decide +kernel
theorem dX5_has_1 : decode cX5_has 1 = .ok (.aload_n 0, 1) := by decide +kernel
theorem dX5_has_2 : decode cX5_has 2 = .ok (.getfield 23, 3) := by decide +kernel
theorem dX5_has_5 : decode cX5_has 5 = .ok (.invokestatic 36, 3) := by decide +kernel
theorem dX5_has_8 : decode cX5_has 8 = .ok (.ireturn, 1) := by decide +kernel
theorem dX5_testCount_0 : decode cX5_testCount 0 = .ok (.aload_n 0, 1) := by decide +kernel
theorem dX5_testCount_1 : decode cX5_testCount 1 = .ok (.getfield 15, 3) := by decide +kernel
theorem dX5_testCount_4 : decode cX5_testCount 4 = .ok (.iconst 2, 1) := by decide +kernel
theorem dX5_testCount_5 : decode cX5_testCount 5 = .ok (.iaload, 1) := by decide +kernel
theorem dX5_testCount_6 : decode cX5_testCount 6 = .ok (.invokestatic 40, 3) := by decide +kernel
theorem dX5_testCount_9 : decode cX5_testCount 9 = .ok (.ireturn, 1) := by decide +kernel
theorem dX5_append_0 : decode cX5_append 0 = .ok (.aload_n 0, 1) := by decide +kernel
theorem dX5_append_1 : decode cX5_append 1 = .ok (.getfield 23, 3) := by decide +kernel
theorem dX5_append_4 : decode cX5_append 4 = .ok (.istore_n 3, 1) := by decide +kernel
theorem dX5_append_5 : decode cX5_append 5 = .ok (.aload_n 0, 1) := by decide +kernel
theorem dX5_append_6 : decode cX5_append 6 = .ok (.getfield 9, 3) := by decide +kernel
theorem dX5_append_9 : decode cX5_append 9 = .ok (.iload_n 3, 1) := by decide +kernel
theorem dX5_append_10 : decode cX5_append 10 = .ok (.iload_n 2, 1) := by decide +kernel
theorem dX5_append_11 : decode cX5_append 11 = .ok (.iastore, 1) := by decide +kernel
theorem dX5_append_12 : decode cX5_append 12 = .ok (.aload_n 0, 1) := by decide +kernel
theorem dX5_append_13 : decode cX5_append 13 = .ok (.getfield 15, 3) := by decide +kernel
theorem dX5_append_16 : decode cX5_append 16 = .ok (.iload_n 1, 1) := by decide +kernel
theorem dX5_append_17 : decode cX5_append 17 = .ok (.dup2, 1) := by decide +kernel
theorem dX5_append_18 : decode cX5_append 18 = .ok (.iaload, 1) := by decide +kernel
theorem dX5_append_19 : decode cX5_append 19 = .ok (.iload_n 3, 1) := by decide +kernel
theorem dX5_append_20 : decode cX5_append 20 = .ok (.invokestatic 46, 3) := by decide +kernel
theorem dX5_append_23 : decode cX5_append 23 = .ok (.ior, 1) := by decide +kernel
theorem dX5_append_24 : decode cX5_append 24 = .ok (.iastore, 1) := by decide +kernel
theorem dX5_append_25 : decode cX5_append 25 = .ok (.aload_n 0, 1) := by decide +kernel
theorem dX5_append_26 : decode cX5_append 26 = .ok (.dup, 1) := by decide +kernel
theorem dX5_append_27 : decode cX5_append 27 = .ok (.getfield 23, 3) := by decide +kernel
theorem dX5_append_30 : decode cX5_append 30 = .ok (.iconst 1, 1) := by decide +kernel
theorem dX5_append_31 : decode cX5_append 31 = .ok (.iadd, 1) := by decide +kernel
theorem dX5_append_32 : decode cX5_append 32 = .ok (.putfield 23, 3) := by decide +kernel
theorem dX5_append_35 : decode cX5_append 35 = .ok (.iload_n 3, 1) := by decide +kernel
theorem dX5_append_36 : decode cX5_append 36 = .ok (.ireturn, 1) := by decide +kernel
theorem dX5_allows_0 : decode cX5_allows 0 = .ok (.aload_n 0, 1) := by decide +kernel
theorem dX5_allows_1 : decode cX5_allows 1 = .ok (.getfield 15, 3) := by decide +kernel
theorem dX5_allows_4 : decode cX5_allows 4 = .ok (.iconst 2, 1) := by decide +kernel
theorem dX5_allows_5 : decode cX5_allows 5 = .ok (.iaload, 1) := by decide +kernel
theorem dX5_allows_6 : decode cX5_allows 6 = .ok (.iload_n 2, 1) := by decide +kernel
theorem dX5_allows_7 : decode cX5_allows 7 = .ok (.invokestatic 49, 3) := by decide +kernel
theorem dX5_allows_10 : decode cX5_allows 10 = .ok (.ifCond .eq 5, 3) := by decide +kernel
theorem dX5_allows_13 : decode cX5_allows 13 = .ok (.iconst 0, 1) := by decide +kernel
theorem dX5_allows_14 : decode cX5_allows 14 = .ok (.ireturn, 1) := by decide +kernel
theorem dX5_allows_15 : decode cX5_allows 15 = .ok (.iload_n 3, 1) := by decide +kernel
theorem dX5_allows_16 : decode cX5_allows 16 = .ok (.iconst 2, 1) := by decide +kernel
theorem dX5_allows_17 : decode cX5_allows 17 = .ok (.if_icmp .ne 14, 3) := by decide +kernel
theorem dX5_allows_20 : decode cX5_allows 20 = .ok (.aload_n 0, 1) := by decide +kernel
theorem dX5_allows_21 : decode cX5_allows 21 = .ok (.getfield 15, 3) := by decide +kernel
theorem dX5_allows_24 : decode cX5_allows 24 = .ok (.iconst 1, 1) := by decide +kernel
theorem dX5_allows_25 : decode cX5_allows 25 = .ok (.iaload, 1) := by decide +kernel
theorem dX5_allows_26 : decode cX5_allows 26 = .ok (.iload_n 2, 1) := by decide +kernel
theorem dX5_allows_27 : decode cX5_allows 27 = .ok (.invokestatic 49, 3) := by decide +kernel
theorem dX5_allows_30 : decode cX5_allows 30 = .ok (.ireturn, 1) := by decide +kernel
theorem dX5_allows_31 : decode cX5_allows 31 = .ok (.iload_n 3, 1) := by decide +kernel
theorem dX5_allows_32 : decode cX5_allows 32 = .ok (.iconst 3, 1) := by decide +kernel
theorem dX5_allows_33 : decode cX5_allows 33 = .ok (.if_icmp .ne 16, 3) := by decide +kernel
theorem dX5_allows_36 : decode cX5_allows 36 = .ok (.aload_n 0, 1) := by decide +kernel
theorem dX5_allows_37 : decode cX5_allows 37 = .ok (.getfield 15, 3) := by decide +kernel
theorem dX5_allows_40 : decode cX5_allows 40 = .ok (.iconst 2, 1) := by decide +kernel
theorem dX5_allows_41 : decode cX5_allows 41 = .ok (.iaload, 1) := by decide +kernel
theorem dX5_allows_42 : decode cX5_allows 42 = .ok (.iload_n 1, 1) := by decide +kernel
theorem dX5_allows_43 : decode cX5_allows 43 = .ok (.invokestatic 49, 3) := by decide +kernel
theorem dX5_allows_46 : decode cX5_allows 46 = .ok (.ifCond .eq 7, 3) := by decide +kernel
theorem dX5_allows_49 : decode cX5_allows 49 = .ok (.iconst 1, 1) := by decide +kernel
theorem dX5_allows_50 : decode cX5_allows 50 = .ok (.goto 4, 3) := by decide +kernel
theorem dX5_allows_53 : decode cX5_allows 53 = .ok (.iconst 0, 1) := by decide +kernel
theorem dX5_allows_54 : decode cX5_allows 54 = .ok (.ireturn, 1) := by decide +kernel
theorem dX5_connect_0 : decode cX5_connect 0 = .ok (.aload_n 0, 1) := by decide +kernel
theorem dX5_connect_1 : decode cX5_connect 1 = .ok (.getfield 20, 3) := by decide +kernel
theorem dX5_connect_4 : decode cX5_connect 4 = .ok (.iload_n 3, 1) := by decide +kernel
theorem dX5_connect_5 : decode cX5_connect 5 = .ok (.aaload, 1) := by decide +kernel
theorem dX5_connect_6 : decode cX5_connect 6 = .ok (.iload_n 2, 1) := by decide +kernel
theorem dX5_connect_7 : decode cX5_connect 7 = .ok (.dup2, 1) := by decide +kernel
theorem dX5_connect_8 : decode cX5_connect 8 = .ok (.iaload, 1) := by decide +kernel
theorem dX5_connect_9 : decode cX5_connect 9 = .ok (.iload_n 1, 1) := by decide +kernel
theorem dX5_connect_10 : decode cX5_connect 10 = .ok (.invokestatic 46, 3) := by decide +kernel
theorem dX5_connect_13 : decode cX5_connect 13 = .ok (.ior, 1) := by decide +kernel
theorem dX5_connect_14 : decode cX5_connect 14 = .ok (.iastore, 1) := by decide +kernel
theorem dX5_connect_15 : decode cX5_connect 15 = .ok (.aload_n 0, 1) := by decide +kernel
theorem dX5_connect_16 : decode cX5_connect 16 = .ok (.dup, 1) := by decide +kernel
theorem dX5_connect_17 : decode cX5_connect 17 = .ok (.getfield 27, 3) := by decide +kernel
theorem dX5_connect_20 : decode cX5_connect 20 = .ok (.iconst 1, 1) := by decide +kernel
theorem dX5_connect_21 : decode cX5_connect 21 = .ok (.iadd, 1) := by decide +kernel
theorem dX5_connect_22 : decode cX5_connect 22 = .ok (.putfield 27, 3) := by decide +kernel
theorem dX5_connect_25 : decode cX5_connect 25 = .ok (.return_, 1) := by decide +kernel
theorem dX5_disconnect_0 : decode cX5_disconnect 0 = .ok (.aload_n 0, 1) := by decide +kernel
theorem dX5_disconnect_1 : decode cX5_disconnect 1 = .ok (.getfield 20, 3) := by decide +kernel
theorem dX5_disconnect_4 : decode cX5_disconnect 4 = .ok (.iload_n 3, 1) := by decide +kernel
theorem dX5_disconnect_5 : decode cX5_disconnect 5 = .ok (.aaload, 1) := by decide +kernel
theorem dX5_disconnect_6 : decode cX5_disconnect 6 = .ok (.iload_n 2, 1) := by decide +kernel
theorem dX5_disconnect_7 : decode cX5_disconnect 7 = .ok (.dup2, 1) := by decide +kernel
theorem dX5_disconnect_8 : decode cX5_disconnect 8 = .ok (.iaload, 1) := by decide +kernel
theorem dX5_disconnect_9 : decode cX5_disconnect 9 = .ok (.iload_n 1, 1) := by decide +kernel
theorem dX5_disconnect_10 : decode cX5_disconnect 10 = .ok (.invokestatic 46, 3) := by decide +kernel
theorem dX5_disconnect_13 : decode cX5_disconnect 13 = .ok (.iconst (-1), 1) := by decide +kernel
theorem dX5_disconnect_14 : decode cX5_disconnect 14 = .ok (.ixor, 1) := by decide +kernel
theorem dX5_disconnect_15 : decode cX5_disconnect 15 = .ok (.iand, 1) := by decide +kernel
theorem dX5_disconnect_16 : decode cX5_disconnect 16 = .ok (.iastore, 1) := by decide +kernel
theorem dX5_disconnect_17 : decode cX5_disconnect 17 = .ok (.aload_n 0, 1) := by decide +kernel
theorem dX5_disconnect_18 : decode cX5_disconnect 18 = .ok (.dup, 1) := by decide +kernel
theorem dX5_disconnect_19 : decode cX5_disconnect 19 = .ok (.getfield 27, 3) := by decide +kernel
theorem dX5_disconnect_22 : decode cX5_disconnect 22 = .ok (.iconst 1, 1) := by decide +kernel
theorem dX5_disconnect_23 : decode cX5_disconnect 23 = .ok (.isub, 1) := by decide +kernel
theorem dX5_disconnect_24 : decode cX5_disconnect 24 = .ok (.putfield 27, 3) := by decide +kernel
theorem dX5_disconnect_27 : decode cX5_disconnect 27 = .ok (.return_, 1) := by decide +kernel
theorem dX5_kindBetween_0 : decode cX5_kindBetween 0 = .ok (.iconst 0, 1) := by decide +kernel
theorem dX5_kindBetween_1 : decode cX5_kindBetween 1 = .ok (.istore_n 3, 1) := by decide +kernel
theorem dX5_kindBetween_2 : decode cX5_kindBetween 2 = .ok (.iload_n 3, 1) := by decide +kernel
theorem dX5_kindBetween_3 : decode cX5_kindBetween 3 = .ok (.iconst 4, 1) := by decide +kernel
theorem dX5_kindBetween_4 : decode cX5_kindBetween 4 = .ok (.if_icmp .ge 26, 3) := by decide +kernel
theorem dX5_kindBetween_7 : decode cX5_kindBetween 7 = .ok (.aload_n 0, 1) := by decide +kernel
theorem dX5_kindBetween_8 : decode cX5_kindBetween 8 = .ok (.getfield 20, 3) := by decide +kernel
theorem dX5_kindBetween_11 : decode cX5_kindBetween 11 = .ok (.iload_n 3, 1) := by decide +kernel
theorem dX5_kindBetween_12 : decode cX5_kindBetween 12 = .ok (.aaload, 1) := by decide +kernel
theorem dX5_kindBetween_13 : decode cX5_kindBetween 13 = .ok (.iload_n 2, 1) := by decide +kernel
theorem dX5_kindBetween_14 : decode cX5_kindBetween 14 = .ok (.iaload, 1) := by decide +kernel
theorem dX5_kindBetween_15 : decode cX5_kindBetween 15 = .ok (.iload_n 1, 1) := by decide +kernel
theorem dX5_kindBetween_16 : decode cX5_kindBetween 16 = .ok (.invokestatic 49, 3) := by decide +kernel
theorem dX5_kindBetween_19 : decode cX5_kindBetween 19 = .ok (.ifCond .eq 5, 3) := by decide +kernel
theorem dX5_kindBetween_22 : decode cX5_kindBetween 22 = .ok (.iload_n 3, 1) := by decide +kernel
theorem dX5_kindBetween_23 : decode cX5_kindBetween 23 = .ok (.ireturn, 1) := by decide +kernel
theorem dX5_kindBetween_24 : decode cX5_kindBetween 24 = .ok (.iinc 3 1, 3) := by decide +kernel
theorem dX5_kindBetween_27 : decode cX5_kindBetween 27 = .ok (.goto (-25), 3) := by decide +kernel
theorem dX5_kindBetween_30 : decode cX5_kindBetween 30 = .ok (.bipush (-10), 2) := by decide +kernel
theorem dX5_kindBetween_32 : decode cX5_kindBetween 32 = .ok (.ireturn, 1) := by decide +kernel
theorem dX5_usersOf_0 : decode cX5_usersOf 0 = .ok (.iconst 0, 1) := by decide +kernel
theorem dX5_usersOf_1 : decode cX5_usersOf 1 = .ok (.istore_n 3, 1) := by decide +kernel
theorem dX5_usersOf_2 : decode cX5_usersOf 2 = .ok (.iconst 0, 1) := by decide +kernel
theorem dX5_usersOf_3 : decode cX5_usersOf 3 = .ok (.istore 4, 2) := by decide +kernel
theorem dX5_usersOf_5 : decode cX5_usersOf 5 = .ok (.iload 4, 2) := by decide +kernel
theorem dX5_usersOf_7 : decode cX5_usersOf 7 = .ok (.iconst 4, 1) := by decide +kernel
theorem dX5_usersOf_8 : decode cX5_usersOf 8 = .ok (.if_icmp .ge 30, 3) := by decide +kernel
theorem dX5_usersOf_11 : decode cX5_usersOf 11 = .ok (.iload_n 2, 1) := by decide +kernel
theorem dX5_usersOf_12 : decode cX5_usersOf 12 = .ok (.iload 4, 2) := by decide +kernel
theorem dX5_usersOf_14 : decode cX5_usersOf 14 = .ok (.iushr, 1) := by decide +kernel
theorem dX5_usersOf_15 : decode cX5_usersOf 15 = .ok (.iconst 1, 1) := by decide +kernel
theorem dX5_usersOf_16 : decode cX5_usersOf 16 = .ok (.iand, 1) := by decide +kernel
theorem dX5_usersOf_17 : decode cX5_usersOf 17 = .ok (.ifCond .eq 15, 3) := by decide +kernel
theorem dX5_usersOf_20 : decode cX5_usersOf 20 = .ok (.iload_n 3, 1) := by decide +kernel
theorem dX5_usersOf_21 : decode cX5_usersOf 21 = .ok (.aload_n 0, 1) := by decide +kernel
theorem dX5_usersOf_22 : decode cX5_usersOf 22 = .ok (.getfield 20, 3) := by decide +kernel
theorem dX5_usersOf_25 : decode cX5_usersOf 25 = .ok (.iload 4, 2) := by decide +kernel
theorem dX5_usersOf_27 : decode cX5_usersOf 27 = .ok (.aaload, 1) := by decide +kernel
theorem dX5_usersOf_28 : decode cX5_usersOf 28 = .ok (.iload_n 1, 1) := by decide +kernel
theorem dX5_usersOf_29 : decode cX5_usersOf 29 = .ok (.iaload, 1) := by decide +kernel
theorem dX5_usersOf_30 : decode cX5_usersOf 30 = .ok (.ior, 1) := by decide +kernel
theorem dX5_usersOf_31 : decode cX5_usersOf 31 = .ok (.istore_n 3, 1) := by decide +kernel
theorem dX5_usersOf_32 : decode cX5_usersOf 32 = .ok (.iinc 4 1, 3) := by decide +kernel
theorem dX5_usersOf_35 : decode cX5_usersOf 35 = .ok (.goto (-30), 3) := by decide +kernel
theorem dX5_usersOf_38 : decode cX5_usersOf 38 = .ok (.iload_n 3, 1) := by decide +kernel
theorem dX5_usersOf_39 : decode cX5_usersOf 39 = .ok (.ireturn, 1) := by decide +kernel
theorem dX5_usersOfAny_0 : decode cX5_usersOfAny 0 = .ok (.iconst 0, 1) := by decide +kernel
theorem dX5_usersOfAny_1 : decode cX5_usersOfAny 1 = .ok (.istore_n 3, 1) := by decide +kernel
theorem dX5_usersOfAny_2 : decode cX5_usersOfAny 2 = .ok (.iconst 0, 1) := by decide +kernel
theorem dX5_usersOfAny_3 : decode cX5_usersOfAny 3 = .ok (.istore 4, 2) := by decide +kernel
theorem dX5_usersOfAny_5 : decode cX5_usersOfAny 5 = .ok (.iload 4, 2) := by decide +kernel
theorem dX5_usersOfAny_7 : decode cX5_usersOfAny 7 = .ok (.bipush 20, 2) := by decide +kernel
theorem dX5_usersOfAny_9 : decode cX5_usersOfAny 9 = .ok (.if_icmp .ge 28, 3) := by decide +kernel
theorem dX5_usersOfAny_12 : decode cX5_usersOfAny 12 = .ok (.iload_n 1, 1) := by decide +kernel
theorem dX5_usersOfAny_13 : decode cX5_usersOfAny 13 = .ok (.iload 4, 2) := by decide +kernel
theorem dX5_usersOfAny_15 : decode cX5_usersOfAny 15 = .ok (.invokestatic 49, 3) := by decide +kernel
theorem dX5_usersOfAny_18 : decode cX5_usersOfAny 18 = .ok (.ifCond .eq 13, 3) := by decide +kernel
theorem dX5_usersOfAny_21 : decode cX5_usersOfAny 21 = .ok (.iload_n 3, 1) := by decide +kernel
theorem dX5_usersOfAny_22 : decode cX5_usersOfAny 22 = .ok (.aload_n 0, 1) := by decide +kernel
theorem dX5_usersOfAny_23 : decode cX5_usersOfAny 23 = .ok (.iload 4, 2) := by decide +kernel
theorem dX5_usersOfAny_25 : decode cX5_usersOfAny 25 = .ok (.iload_n 2, 1) := by decide +kernel
theorem dX5_usersOfAny_26 : decode cX5_usersOfAny 26 = .ok (.invokevirtual 52, 3) := by decide +kernel
theorem dX5_usersOfAny_29 : decode cX5_usersOfAny 29 = .ok (.ior, 1) := by decide +kernel
theorem dX5_usersOfAny_30 : decode cX5_usersOfAny 30 = .ok (.istore_n 3, 1) := by decide +kernel
theorem dX5_usersOfAny_31 : decode cX5_usersOfAny 31 = .ok (.iinc 4 1, 3) := by decide +kernel
theorem dX5_usersOfAny_34 : decode cX5_usersOfAny 34 = .ok (.goto (-29), 3) := by decide +kernel
theorem dX5_usersOfAny_37 : decode cX5_usersOfAny 37 = .ok (.iload_n 3, 1) := by decide +kernel
theorem dX5_usersOfAny_38 : decode cX5_usersOfAny 38 = .ok (.ireturn, 1) := by decide +kernel
theorem dX5_withAllUsers_0 : decode cX5_withAllUsers 0 = .ok (.iload_n 1, 1) := by decide +kernel
theorem dX5_withAllUsers_1 : decode cX5_withAllUsers 1 = .ok (.istore_n 3, 1) := by decide +kernel
theorem dX5_withAllUsers_2 : decode cX5_withAllUsers 2 = .ok (.iload_n 1, 1) := by decide +kernel
theorem dX5_withAllUsers_3 : decode cX5_withAllUsers 3 = .ok (.istore 4, 2) := by decide +kernel
theorem dX5_withAllUsers_5 : decode cX5_withAllUsers 5 = .ok (.iconst 0, 1) := by decide +kernel
theorem dX5_withAllUsers_6 : decode cX5_withAllUsers 6 = .ok (.istore 5, 2) := by decide +kernel
theorem dX5_withAllUsers_8 : decode cX5_withAllUsers 8 = .ok (.iload 5, 2) := by decide +kernel
theorem dX5_withAllUsers_10 : decode cX5_withAllUsers 10 = .ok (.bipush 20, 2) := by decide +kernel
theorem dX5_withAllUsers_12 : decode cX5_withAllUsers 12 = .ok (.if_icmp .ge 32, 3) := by decide +kernel
theorem dX5_withAllUsers_15 : decode cX5_withAllUsers 15 = .ok (.iload 4, 2) := by decide +kernel
theorem dX5_withAllUsers_17 : decode cX5_withAllUsers 17 = .ok (.ifCond .eq 27, 3) := by decide +kernel
theorem dX5_withAllUsers_20 : decode cX5_withAllUsers 20 = .ok (.aload_n 0, 1) := by decide +kernel
theorem dX5_withAllUsers_21 : decode cX5_withAllUsers 21 = .ok (.iload 4, 2) := by decide +kernel
theorem dX5_withAllUsers_23 : decode cX5_withAllUsers 23 = .ok (.iload_n 2, 1) := by decide +kernel
theorem dX5_withAllUsers_24 : decode cX5_withAllUsers 24 = .ok (.invokevirtual 56, 3) := by decide +kernel
theorem dX5_withAllUsers_27 : decode cX5_withAllUsers 27 = .ok (.iload_n 3, 1) := by decide +kernel
theorem dX5_withAllUsers_28 : decode cX5_withAllUsers 28 = .ok (.iconst (-1), 1) := by decide +kernel
theorem dX5_withAllUsers_29 : decode cX5_withAllUsers 29 = .ok (.ixor, 1) := by decide +kernel
theorem dX5_withAllUsers_30 : decode cX5_withAllUsers 30 = .ok (.iand, 1) := by decide +kernel
theorem dX5_withAllUsers_31 : decode cX5_withAllUsers 31 = .ok (.istore 4, 2) := by decide +kernel
theorem dX5_withAllUsers_33 : decode cX5_withAllUsers 33 = .ok (.iload_n 3, 1) := by decide +kernel
theorem dX5_withAllUsers_34 : decode cX5_withAllUsers 34 = .ok (.iload 4, 2) := by decide +kernel
theorem dX5_withAllUsers_36 : decode cX5_withAllUsers 36 = .ok (.ior, 1) := by decide +kernel
theorem dX5_withAllUsers_37 : decode cX5_withAllUsers 37 = .ok (.istore_n 3, 1) := by decide +kernel
theorem dX5_withAllUsers_38 : decode cX5_withAllUsers 38 = .ok (.iinc 5 1, 3) := by decide +kernel
theorem dX5_withAllUsers_41 : decode cX5_withAllUsers 41 = .ok (.goto (-33), 3) := by decide +kernel
theorem dX5_withAllUsers_44 : decode cX5_withAllUsers 44 = .ok (.iload_n 3, 1) := by decide +kernel
theorem dX5_withAllUsers_45 : decode cX5_withAllUsers 45 = .ok (.ireturn, 1) := by decide +kernel
theorem dX5_followersOf_0 : decode cX5_followersOf 0 = .ok (.iload_n 1, 1) := by decide +kernel
theorem dX5_followersOf_1 : decode cX5_followersOf 1 = .ok (.iconst 2, 1) := by decide +kernel
theorem dX5_followersOf_2 : decode cX5_followersOf 2 = .ok (.idiv, 1) := by decide +kernel
theorem dX5_followersOf_3 : decode cX5_followersOf 3 = .ok (.istore_n 2, 1) := by decide +kernel
theorem dX5_followersOf_4 : decode cX5_followersOf 4 = .ok (.iload_n 1, 1) := by decide +kernel
theorem dX5_followersOf_5 : decode cX5_followersOf 5 = .ok (.iconst 2, 1) := by decide +kernel
theorem dX5_followersOf_6 : decode cX5_followersOf 6 = .ok (.irem, 1) := by decide +kernel
theorem dX5_followersOf_7 : decode cX5_followersOf 7 = .ok (.iconst 1, 1) := by decide +kernel
theorem dX5_followersOf_8 : decode cX5_followersOf 8 = .ok (.if_icmp .ne 16, 3) := by decide +kernel
theorem dX5_followersOf_11 : decode cX5_followersOf 11 = .ok (.aload_n 0, 1) := by decide +kernel
theorem dX5_followersOf_12 : decode cX5_followersOf 12 = .ok (.getfield 20, 3) := by decide +kernel
theorem dX5_followersOf_15 : decode cX5_followersOf 15 = .ok (.iconst 2, 1) := by decide +kernel
theorem dX5_followersOf_16 : decode cX5_followersOf 16 = .ok (.aaload, 1) := by decide +kernel
theorem dX5_followersOf_17 : decode cX5_followersOf 17 = .ok (.iload_n 2, 1) := by decide +kernel
theorem dX5_followersOf_18 : decode cX5_followersOf 18 = .ok (.iaload, 1) := by decide +kernel
theorem dX5_followersOf_19 : decode cX5_followersOf 19 = .ok (.iconst 0, 1) := by decide +kernel
theorem dX5_followersOf_20 : decode cX5_followersOf 20 = .ok (.invokestatic 59, 3) := by decide +kernel
theorem dX5_followersOf_23 : decode cX5_followersOf 23 = .ok (.lreturn, 1) := by decide +kernel
theorem dX5_followersOf_24 : decode cX5_followersOf 24 = .ok (.aload_n 0, 1) := by decide +kernel
theorem dX5_followersOf_25 : decode cX5_followersOf 25 = .ok (.getfield 20, 3) := by decide +kernel
theorem dX5_followersOf_28 : decode cX5_followersOf 28 = .ok (.iconst 0, 1) := by decide +kernel
theorem dX5_followersOf_29 : decode cX5_followersOf 29 = .ok (.aaload, 1) := by decide +kernel
theorem dX5_followersOf_30 : decode cX5_followersOf 30 = .ok (.iload_n 2, 1) := by decide +kernel
theorem dX5_followersOf_31 : decode cX5_followersOf 31 = .ok (.iaload, 1) := by decide +kernel
theorem dX5_followersOf_32 : decode cX5_followersOf 32 = .ok (.iconst 0, 1) := by decide +kernel
theorem dX5_followersOf_33 : decode cX5_followersOf 33 = .ok (.invokestatic 59, 3) := by decide +kernel
theorem dX5_followersOf_36 : decode cX5_followersOf 36 = .ok (.aload_n 0, 1) := by decide +kernel
theorem dX5_followersOf_37 : decode cX5_followersOf 37 = .ok (.getfield 20, 3) := by decide +kernel
theorem dX5_followersOf_40 : decode cX5_followersOf 40 = .ok (.iconst 1, 1) := by decide +kernel
theorem dX5_followersOf_41 : decode cX5_followersOf 41 = .ok (.aaload, 1) := by decide +kernel
theorem dX5_followersOf_42 : decode cX5_followersOf 42 = .ok (.iload_n 2, 1) := by decide +kernel
theorem dX5_followersOf_43 : decode cX5_followersOf 43 = .ok (.iaload, 1) := by decide +kernel
theorem dX5_followersOf_44 : decode cX5_followersOf 44 = .ok (.iload_n 2, 1) := by decide +kernel
theorem dX5_followersOf_45 : decode cX5_followersOf 45 = .ok (.invokestatic 46, 3) := by decide +kernel
theorem dX5_followersOf_48 : decode cX5_followersOf 48 = .ok (.ior, 1) := by decide +kernel
theorem dX5_followersOf_49 : decode cX5_followersOf 49 = .ok (.iconst 1, 1) := by decide +kernel
theorem dX5_followersOf_50 : decode cX5_followersOf 50 = .ok (.invokestatic 59, 3) := by decide +kernel
theorem dX5_followersOf_53 : decode cX5_followersOf 53 = .ok (.lor, 1) := by decide +kernel
theorem dX5_followersOf_54 : decode cX5_followersOf 54 = .ok (.lreturn, 1) := by decide +kernel
theorem dX5_followersOfAny_0 : decode cX5_followersOfAny 0 = .ok (.lconst 0, 1) := by decide +kernel
theorem dX5_followersOfAny_1 : decode cX5_followersOfAny 1 = .ok (.lstore_n 3, 1) := by decide +kernel
theorem dX5_followersOfAny_2 : decode cX5_followersOfAny 2 = .ok (.iconst 0, 1) := by decide +kernel
theorem dX5_followersOfAny_3 : decode cX5_followersOfAny 3 = .ok (.istore 5, 2) := by decide +kernel
theorem dX5_followersOfAny_5 : decode cX5_followersOfAny 5 = .ok (.iload 5, 2) := by decide +kernel
theorem dX5_followersOfAny_7 : decode cX5_followersOfAny 7 = .ok (.bipush 40, 2) := by decide +kernel
theorem dX5_followersOfAny_9 : decode cX5_followersOfAny 9 = .ok (.if_icmp .ge 27, 3) := by decide +kernel
theorem dX5_followersOfAny_12 : decode cX5_followersOfAny 12 = .ok (.lload_n 1, 1) := by decide +kernel
theorem dX5_followersOfAny_13 : decode cX5_followersOfAny 13 = .ok (.iload 5, 2) := by decide +kernel
theorem dX5_followersOfAny_15 : decode cX5_followersOfAny 15 = .ok (.invokestatic 63, 3) := by decide +kernel
theorem dX5_followersOfAny_18 : decode cX5_followersOfAny 18 = .ok (.ifCond .eq 12, 3) := by decide +kernel
theorem dX5_followersOfAny_21 : decode cX5_followersOfAny 21 = .ok (.lload_n 3, 1) := by decide +kernel
theorem dX5_followersOfAny_22 : decode cX5_followersOfAny 22 = .ok (.aload_n 0, 1) := by decide +kernel
theorem dX5_followersOfAny_23 : decode cX5_followersOfAny 23 = .ok (.iload 5, 2) := by decide +kernel
theorem dX5_followersOfAny_25 : decode cX5_followersOfAny 25 = .ok (.invokevirtual 67, 3) := by decide +kernel
theorem dX5_followersOfAny_28 : decode cX5_followersOfAny 28 = .ok (.lor, 1) := by decide +kernel
theorem dX5_followersOfAny_29 : decode cX5_followersOfAny 29 = .ok (.lstore_n 3, 1) := by decide +kernel
theorem dX5_followersOfAny_30 : decode cX5_followersOfAny 30 = .ok (.iinc 5 1, 3) := by decide +kernel
theorem dX5_followersOfAny_33 : decode cX5_followersOfAny 33 = .ok (.goto (-28), 3) := by decide +kernel
theorem dX5_followersOfAny_36 : decode cX5_followersOfAny 36 = .ok (.lload_n 3, 1) := by decide +kernel
theorem dX5_followersOfAny_37 : decode cX5_followersOfAny 37 = .ok (.lreturn, 1) := by decide +kernel
theorem dX5_causesOfAny_0 : decode cX5_causesOfAny 0 = .ok (.lconst 0, 1) := by decide +kernel
theorem dX5_causesOfAny_1 : decode cX5_causesOfAny 1 = .ok (.lstore_n 3, 1) := by decide +kernel
theorem dX5_causesOfAny_2 : decode cX5_causesOfAny 2 = .ok (.iconst 0, 1) := by decide +kernel
theorem dX5_causesOfAny_3 : decode cX5_causesOfAny 3 = .ok (.istore 5, 2) := by decide +kernel
theorem dX5_causesOfAny_5 : decode cX5_causesOfAny 5 = .ok (.iload 5, 2) := by decide +kernel
theorem dX5_causesOfAny_7 : decode cX5_causesOfAny 7 = .ok (.bipush 40, 2) := by decide +kernel
theorem dX5_causesOfAny_9 : decode cX5_causesOfAny 9 = .ok (.if_icmp .ge 30, 3) := by decide +kernel
theorem dX5_causesOfAny_12 : decode cX5_causesOfAny 12 = .ok (.aload_n 0, 1) := by decide +kernel
theorem dX5_causesOfAny_13 : decode cX5_causesOfAny 13 = .ok (.iload 5, 2) := by decide +kernel
theorem dX5_causesOfAny_15 : decode cX5_causesOfAny 15 = .ok (.invokevirtual 67, 3) := by decide +kernel
theorem dX5_causesOfAny_18 : decode cX5_causesOfAny 18 = .ok (.lload_n 1, 1) := by decide +kernel
theorem dX5_causesOfAny_19 : decode cX5_causesOfAny 19 = .ok (.land, 1) := by decide +kernel
theorem dX5_causesOfAny_20 : decode cX5_causesOfAny 20 = .ok (.lconst 0, 1) := by decide +kernel
theorem dX5_causesOfAny_21 : decode cX5_causesOfAny 21 = .ok (.lcmp, 1) := by decide +kernel
theorem dX5_causesOfAny_22 : decode cX5_causesOfAny 22 = .ok (.ifCond .eq 11, 3) := by decide +kernel
theorem dX5_causesOfAny_25 : decode cX5_causesOfAny 25 = .ok (.lload_n 3, 1) := by decide +kernel
theorem dX5_causesOfAny_26 : decode cX5_causesOfAny 26 = .ok (.iload 5, 2) := by decide +kernel
theorem dX5_causesOfAny_28 : decode cX5_causesOfAny 28 = .ok (.invokestatic 71, 3) := by decide +kernel
theorem dX5_causesOfAny_31 : decode cX5_causesOfAny 31 = .ok (.lor, 1) := by decide +kernel
theorem dX5_causesOfAny_32 : decode cX5_causesOfAny 32 = .ok (.lstore_n 3, 1) := by decide +kernel
theorem dX5_causesOfAny_33 : decode cX5_causesOfAny 33 = .ok (.iinc 5 1, 3) := by decide +kernel
theorem dX5_causesOfAny_36 : decode cX5_causesOfAny 36 = .ok (.goto (-31), 3) := by decide +kernel
theorem dX5_causesOfAny_39 : decode cX5_causesOfAny 39 = .ok (.lload_n 3, 1) := by decide +kernel
theorem dX5_causesOfAny_40 : decode cX5_causesOfAny 40 = .ok (.lreturn, 1) := by decide +kernel
theorem dX5_reachOf_0 : decode cX5_reachOf 0 = .ok (.lload_n 1, 1) := by decide +kernel
theorem dX5_reachOf_1 : decode cX5_reachOf 1 = .ok (.lstore_n 3, 1) := by decide +kernel
theorem dX5_reachOf_2 : decode cX5_reachOf 2 = .ok (.lload_n 1, 1) := by decide +kernel
theorem dX5_reachOf_3 : decode cX5_reachOf 3 = .ok (.lstore 5, 2) := by decide +kernel
theorem dX5_reachOf_5 : decode cX5_reachOf 5 = .ok (.iconst 0, 1) := by decide +kernel
theorem dX5_reachOf_6 : decode cX5_reachOf 6 = .ok (.istore 7, 2) := by decide +kernel
theorem dX5_reachOf_8 : decode cX5_reachOf 8 = .ok (.iload 7, 2) := by decide +kernel
theorem dX5_reachOf_10 : decode cX5_reachOf 10 = .ok (.bipush 40, 2) := by decide +kernel
theorem dX5_reachOf_12 : decode cX5_reachOf 12 = .ok (.if_icmp .ge 35, 3) := by decide +kernel
theorem dX5_reachOf_15 : decode cX5_reachOf 15 = .ok (.lload 5, 2) := by decide +kernel
theorem dX5_reachOf_17 : decode cX5_reachOf 17 = .ok (.lconst 0, 1) := by decide +kernel
theorem dX5_reachOf_18 : decode cX5_reachOf 18 = .ok (.lcmp, 1) := by decide +kernel
theorem dX5_reachOf_19 : decode cX5_reachOf 19 = .ok (.ifCond .eq 28, 3) := by decide +kernel
theorem dX5_reachOf_22 : decode cX5_reachOf 22 = .ok (.aload_n 0, 1) := by decide +kernel
theorem dX5_reachOf_23 : decode cX5_reachOf 23 = .ok (.lload 5, 2) := by decide +kernel
theorem dX5_reachOf_25 : decode cX5_reachOf 25 = .ok (.invokevirtual 74, 3) := by decide +kernel
theorem dX5_reachOf_28 : decode cX5_reachOf 28 = .ok (.lload_n 3, 1) := by decide +kernel
theorem dX5_reachOf_29 : decode cX5_reachOf 29 = .ok (.ldc2_w 78, 3) := by decide +kernel
theorem dX5_reachOf_32 : decode cX5_reachOf 32 = .ok (.lxor, 1) := by decide +kernel
theorem dX5_reachOf_33 : decode cX5_reachOf 33 = .ok (.land, 1) := by decide +kernel
theorem dX5_reachOf_34 : decode cX5_reachOf 34 = .ok (.lstore 5, 2) := by decide +kernel
theorem dX5_reachOf_36 : decode cX5_reachOf 36 = .ok (.lload_n 3, 1) := by decide +kernel
theorem dX5_reachOf_37 : decode cX5_reachOf 37 = .ok (.lload 5, 2) := by decide +kernel
theorem dX5_reachOf_39 : decode cX5_reachOf 39 = .ok (.lor, 1) := by decide +kernel
theorem dX5_reachOf_40 : decode cX5_reachOf 40 = .ok (.lstore_n 3, 1) := by decide +kernel
theorem dX5_reachOf_41 : decode cX5_reachOf 41 = .ok (.iinc 7 1, 3) := by decide +kernel
theorem dX5_reachOf_44 : decode cX5_reachOf 44 = .ok (.goto (-36), 3) := by decide +kernel
theorem dX5_reachOf_47 : decode cX5_reachOf 47 = .ok (.lload_n 3, 1) := by decide +kernel
theorem dX5_reachOf_48 : decode cX5_reachOf 48 = .ok (.lreturn, 1) := by decide +kernel
theorem dX5_weightRebuiltBy_0 : decode cX5_weightRebuiltBy 0 = .ok (.aload_n 0, 1) := by decide +kernel
theorem dX5_weightRebuiltBy_1 : decode cX5_weightRebuiltBy 1 = .ok (.iload_n 1, 1) := by decide +kernel
theorem dX5_weightRebuiltBy_2 : decode cX5_weightRebuiltBy 2 = .ok (.invokestatic 71, 3) := by decide +kernel
theorem dX5_weightRebuiltBy_5 : decode cX5_weightRebuiltBy 5 = .ok (.invokevirtual 80, 3) := by decide +kernel
theorem dX5_weightRebuiltBy_8 : decode cX5_weightRebuiltBy 8 = .ok (.iconst 1, 1) := by decide +kernel
theorem dX5_weightRebuiltBy_9 : decode cX5_weightRebuiltBy 9 = .ok (.invokestatic 83, 3) := by decide +kernel
theorem dX5_weightRebuiltBy_12 : decode cX5_weightRebuiltBy 12 = .ok (.istore_n 2, 1) := by decide +kernel
theorem dX5_weightRebuiltBy_13 : decode cX5_weightRebuiltBy 13 = .ok (.iconst 0, 1) := by decide +kernel
theorem dX5_weightRebuiltBy_14 : decode cX5_weightRebuiltBy 14 = .ok (.istore_n 3, 1) := by decide +kernel
theorem dX5_weightRebuiltBy_15 : decode cX5_weightRebuiltBy 15 = .ok (.iconst 0, 1) := by decide +kernel
theorem dX5_weightRebuiltBy_16 : decode cX5_weightRebuiltBy 16 = .ok (.istore 4, 2) := by decide +kernel
theorem dX5_weightRebuiltBy_18 : decode cX5_weightRebuiltBy 18 = .ok (.iload 4, 2) := by decide +kernel
theorem dX5_weightRebuiltBy_20 : decode cX5_weightRebuiltBy 20 = .ok (.bipush 20, 2) := by decide +kernel
theorem dX5_weightRebuiltBy_22 : decode cX5_weightRebuiltBy 22 = .ok (.if_icmp .ge 28, 3) := by decide +kernel
theorem dX5_weightRebuiltBy_25 : decode cX5_weightRebuiltBy 25 = .ok (.iload_n 2, 1) := by decide +kernel
theorem dX5_weightRebuiltBy_26 : decode cX5_weightRebuiltBy 26 = .ok (.iload 4, 2) := by decide +kernel
theorem dX5_weightRebuiltBy_28 : decode cX5_weightRebuiltBy 28 = .ok (.invokestatic 49, 3) := by decide +kernel
theorem dX5_weightRebuiltBy_31 : decode cX5_weightRebuiltBy 31 = .ok (.ifCond .eq 13, 3) := by decide +kernel
theorem dX5_weightRebuiltBy_34 : decode cX5_weightRebuiltBy 34 = .ok (.iload_n 3, 1) := by decide +kernel
theorem dX5_weightRebuiltBy_35 : decode cX5_weightRebuiltBy 35 = .ok (.aload_n 0, 1) := by decide +kernel
theorem dX5_weightRebuiltBy_36 : decode cX5_weightRebuiltBy 36 = .ok (.getfield 9, 3) := by decide +kernel
theorem dX5_weightRebuiltBy_39 : decode cX5_weightRebuiltBy 39 = .ok (.iload 4, 2) := by decide +kernel
theorem dX5_weightRebuiltBy_41 : decode cX5_weightRebuiltBy 41 = .ok (.iaload, 1) := by decide +kernel
theorem dX5_weightRebuiltBy_42 : decode cX5_weightRebuiltBy 42 = .ok (.iadd, 1) := by decide +kernel
theorem dX5_weightRebuiltBy_43 : decode cX5_weightRebuiltBy 43 = .ok (.istore_n 3, 1) := by decide +kernel
theorem dX5_weightRebuiltBy_44 : decode cX5_weightRebuiltBy 44 = .ok (.iinc 4 1, 3) := by decide +kernel
theorem dX5_weightRebuiltBy_47 : decode cX5_weightRebuiltBy 47 = .ok (.goto (-29), 3) := by decide +kernel
theorem dX5_weightRebuiltBy_50 : decode cX5_weightRebuiltBy 50 = .ok (.iload_n 3, 1) := by decide +kernel
theorem dX5_weightRebuiltBy_51 : decode cX5_weightRebuiltBy 51 = .ok (.ireturn, 1) := by decide +kernel
theorem dX5_heaviest_0 : decode cX5_heaviest 0 = .ok (.bipush (-10), 2) := by decide +kernel
theorem dX5_heaviest_2 : decode cX5_heaviest 2 = .ok (.istore_n 2, 1) := by decide +kernel
theorem dX5_heaviest_3 : decode cX5_heaviest 3 = .ok (.iconst 0, 1) := by decide +kernel
theorem dX5_heaviest_4 : decode cX5_heaviest 4 = .ok (.istore_n 3, 1) := by decide +kernel
theorem dX5_heaviest_5 : decode cX5_heaviest 5 = .ok (.iconst 0, 1) := by decide +kernel
theorem dX5_heaviest_6 : decode cX5_heaviest 6 = .ok (.istore 4, 2) := by decide +kernel
theorem dX5_heaviest_8 : decode cX5_heaviest 8 = .ok (.iload 4, 2) := by decide +kernel
theorem dX5_heaviest_10 : decode cX5_heaviest 10 = .ok (.bipush 20, 2) := by decide +kernel
theorem dX5_heaviest_12 : decode cX5_heaviest 12 = .ok (.if_icmp .ge 40, 3) := by decide +kernel
theorem dX5_heaviest_15 : decode cX5_heaviest 15 = .ok (.iload_n 1, 1) := by decide +kernel
theorem dX5_heaviest_16 : decode cX5_heaviest 16 = .ok (.iload 4, 2) := by decide +kernel
theorem dX5_heaviest_18 : decode cX5_heaviest 18 = .ok (.invokestatic 49, 3) := by decide +kernel
theorem dX5_heaviest_21 : decode cX5_heaviest 21 = .ok (.ifCond .eq 25, 3) := by decide +kernel
theorem dX5_heaviest_24 : decode cX5_heaviest 24 = .ok (.aload_n 0, 1) := by decide +kernel
theorem dX5_heaviest_25 : decode cX5_heaviest 25 = .ok (.getfield 9, 3) := by decide +kernel
theorem dX5_heaviest_28 : decode cX5_heaviest 28 = .ok (.iload 4, 2) := by decide +kernel
theorem dX5_heaviest_30 : decode cX5_heaviest 30 = .ok (.iaload, 1) := by decide +kernel
theorem dX5_heaviest_31 : decode cX5_heaviest 31 = .ok (.iload_n 3, 1) := by decide +kernel
theorem dX5_heaviest_32 : decode cX5_heaviest 32 = .ok (.if_icmp .le 14, 3) := by decide +kernel
theorem dX5_heaviest_35 : decode cX5_heaviest 35 = .ok (.iload 4, 2) := by decide +kernel
theorem dX5_heaviest_37 : decode cX5_heaviest 37 = .ok (.istore_n 2, 1) := by decide +kernel
theorem dX5_heaviest_38 : decode cX5_heaviest 38 = .ok (.aload_n 0, 1) := by decide +kernel
theorem dX5_heaviest_39 : decode cX5_heaviest 39 = .ok (.getfield 9, 3) := by decide +kernel
theorem dX5_heaviest_42 : decode cX5_heaviest 42 = .ok (.iload 4, 2) := by decide +kernel
theorem dX5_heaviest_44 : decode cX5_heaviest 44 = .ok (.iaload, 1) := by decide +kernel
theorem dX5_heaviest_45 : decode cX5_heaviest 45 = .ok (.istore_n 3, 1) := by decide +kernel
theorem dX5_heaviest_46 : decode cX5_heaviest 46 = .ok (.iinc 4 1, 3) := by decide +kernel
theorem dX5_heaviest_49 : decode cX5_heaviest 49 = .ok (.goto (-41), 3) := by decide +kernel
theorem dX5_heaviest_52 : decode cX5_heaviest 52 = .ok (.iload_n 2, 1) := by decide +kernel
theorem dX5_heaviest_53 : decode cX5_heaviest 53 = .ok (.ireturn, 1) := by decide +kernel
