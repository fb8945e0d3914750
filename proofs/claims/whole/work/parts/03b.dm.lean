theorem dX12_init_0 : decode cX12_init 0 = .ok (.aload_n 0, 1) := by decide +kernel
theorem dX12_init_1 : decode cX12_init 1 = .ok (.invokespecial 3, 3) := by decide +kernel
theorem dX12_init_4 : decode cX12_init 4 = .ok (.aload_n 0, 1) := by decide +kernel
theorem dX12_init_5 : decode cX12_init 5 = .ok (.sipush 147, 3) := by decide +kernel
theorem dX12_init_8 : decode cX12_init 8 = .ok (.newarray .int, 2) := by decide +kernel
theorem dX12_init_10 : decode cX12_init 10 = .ok (.putfield 9, 3) := by decide +kernel
theorem dX12_init_13 : decode cX12_init 13 = .ok (.aload_n 0, 1) := by decide +kernel
theorem dX12_init_14 : decode cX12_init 14 = .ok (.sipush 147, 3) := by decide +kernel
theorem dX12_init_17 : decode cX12_init 17 = .ok (.newarray .int, 2) := by decide +kernel
theorem dX12_init_19 : decode cX12_init 19 = .ok (.putfield 13, 3) := by decide +kernel
theorem dX12_init_22 : decode cX12_init 22 = .ok (.aload_n 0, 1) := by decide +kernel
theorem dX12_init_23 : decode cX12_init 23 = .ok (.sipush 147, 3) := by decide +kernel
theorem dX12_init_26 : decode cX12_init 26 = .ok (.newarray .int, 2) := by decide +kernel
theorem dX12_init_28 : decode cX12_init 28 = .ok (.putfield 16, 3) := by decide +kernel
theorem dX12_init_31 : decode cX12_init 31 = .ok (.aload_n 0, 1) := by decide +kernel
theorem dX12_init_32 : decode cX12_init 32 = .ok (.sipush 1176, 3) := by decide +kernel
theorem dX12_init_35 : decode cX12_init 35 = .ok (.newarray .int, 2) := by decide +kernel
theorem dX12_init_37 : decode cX12_init 37 = .ok (.putfield 19, 3) := by decide +kernel
theorem dX12_init_40 : decode cX12_init 40 = .ok (.aload_n 0, 1) := by decide +kernel
theorem dX12_init_41 : decode cX12_init 41 = .ok (.bipush 40, 2) := by decide +kernel
theorem dX12_init_43 : decode cX12_init 43 = .ok (.newarray .char, 2) := by decide +kernel
theorem dX12_init_45 : decode cX12_init 45 = .ok (.putfield 22, 3) := by decide +kernel
theorem dX12_init_48 : decode cX12_init 48 = .ok (.aload_n 0, 1) := by decide +kernel
theorem dX12_init_49 : decode cX12_init 49 = .ok (.bipush 60, 2) := by decide +kernel
theorem dX12_init_51 : decode cX12_init 51 = .ok (.newarray .char, 2) := by decide +kernel
theorem dX12_init_53 : decode cX12_init 53 = .ok (.putfield 26, 3) := by decide +kernel
theorem dX12_init_56 : decode cX12_init 56 = .ok (.aload_n 0, 1) := by decide +kernel
theorem dX12_init_57 : decode cX12_init 57 = .ok (.iconst (-1), 1) := by decide +kernel
theorem dX12_init_58 : decode cX12_init 58 = .ok (.putfield 29, 3) := by decide +kernel
theorem dX12_init_61 : decode cX12_init 61 = .ok (.aload_n 0, 1) := by decide +kernel
theorem dX12_init_62 : decode cX12_init 62 = .ok (.iconst (-1), 1) := by decide +kernel
theorem dX12_init_63 : decode cX12_init 63 = .ok (.putfield 33, 3) := by decide +kernel
theorem dX12_init_66 : decode cX12_init 66 = .ok (.aload_n 0, 1) := by decide +kernel
theorem dX12_init_67 : decode cX12_init 67 = .ok (.sipush 240, 3) := by decide +kernel
theorem dX12_init_70 : decode cX12_init 70 = .ok (.newarray .int, 2) := by decide +kernel
theorem dX12_init_72 : decode cX12_init 72 = .ok (.putfield 36, 3) := by decide +kernel
theorem dX12_init_75 : decode cX12_init 75 = .ok (.return_, 1) := by decide +kernel
theorem dX12_thrown_0 : decode cX12_thrown 0 = .ok (.aload_n 0, 1) := by decide +kernel
theorem dX12_thrown_1 : decode cX12_thrown 1 = .ok (.getfield 39, 3) := by decide +kernel
theorem dX12_thrown_4 : decode cX12_thrown 4 = .ok (.ireturn, 1) := by decide +kernel
theorem dX12_in_0 : decode cX12_in 0 = .ok (.iload_n 0, 1) := by decide +kernel
theorem dX12_in_1 : decode cX12_in 1 = .ok (.iload_n 1, 1) := by decide +kernel
theorem dX12_in_2 : decode cX12_in 2 = .ok (.if_icmp .lt 12, 3) := by decide +kernel
theorem dX12_in_5 : decode cX12_in 5 = .ok (.iload_n 0, 1) := by decide +kernel
theorem dX12_in_6 : decode cX12_in 6 = .ok (.iload_n 2, 1) := by decide +kernel
theorem dX12_in_7 : decode cX12_in 7 = .ok (.if_icmp .gt 7, 3) := by decide +kernel
theorem dX12_in_10 : decode cX12_in 10 = .ok (.iconst 1, 1) := by decide +kernel
theorem dX12_in_11 : decode cX12_in 11 = .ok (.goto 4, 3) := by decide +kernel
theorem dX12_in_14 : decode cX12_in 14 = .ok (.iconst 0, 1) := by decide +kernel
theorem dX12_in_15 : decode cX12_in 15 = .ok (.ireturn, 1) := by decide +kernel
theorem dX12_keep_0 : decode cX12_keep 0 = .ok (.aload_n 0, 1) := by decide +kernel
theorem dX12_keep_1 : decode cX12_keep 1 = .ok (.iconst 0, 1) := by decide +kernel
theorem dX12_keep_2 : decode cX12_keep 2 = .ok (.putfield 39, 3) := by decide +kernel
theorem dX12_keep_5 : decode cX12_keep 5 = .ok (.aload_n 0, 1) := by decide +kernel
theorem dX12_keep_6 : decode cX12_keep 6 = .ok (.getfield 9, 3) := by decide +kernel
theorem dX12_keep_9 : decode cX12_keep 9 = .ok (.iconst 0, 1) := by decide +kernel
theorem dX12_keep_10 : decode cX12_keep 10 = .ok (.aload_n 0, 1) := by decide +kernel
theorem dX12_keep_11 : decode cX12_keep 11 = .ok (.getfield 13, 3) := by decide +kernel
theorem dX12_keep_14 : decode cX12_keep 14 = .ok (.iconst 0, 1) := by decide +kernel
theorem dX12_keep_15 : decode cX12_keep 15 = .ok (.sipush 147, 3) := by decide +kernel
theorem dX12_keep_18 : decode cX12_keep 18 = .ok (.invokestatic 42, 3) := by decide +kernel
theorem dX12_keep_21 : decode cX12_keep 21 = .ok (.return_, 1) := by decide +kernel
theorem dX12_ends_0 : decode cX12_ends 0 = .ok (.aload_n 0, 1) := by decide +kernel
theorem dX12_ends_1 : decode cX12_ends 1 = .ok (.getfield 39, 3) := by decide +kernel
theorem dX12_ends_4 : decode cX12_ends 4 = .ok (.ifCond .le 21, 3) := by decide +kernel
theorem dX12_ends_7 : decode cX12_ends 7 = .ok (.aload_n 0, 1) := by decide +kernel
theorem dX12_ends_8 : decode cX12_ends 8 = .ok (.getfield 13, 3) := by decide +kernel
theorem dX12_ends_11 : decode cX12_ends 11 = .ok (.iconst 0, 1) := by decide +kernel
theorem dX12_ends_12 : decode cX12_ends 12 = .ok (.aload_n 0, 1) := by decide +kernel
theorem dX12_ends_13 : decode cX12_ends 13 = .ok (.getfield 9, 3) := by decide +kernel
theorem dX12_ends_16 : decode cX12_ends 16 = .ok (.iconst 0, 1) := by decide +kernel
theorem dX12_ends_17 : decode cX12_ends 17 = .ok (.sipush 147, 3) := by decide +kernel
theorem dX12_ends_20 : decode cX12_ends 20 = .ok (.invokestatic 42, 3) := by decide +kernel
theorem dX12_ends_23 : decode cX12_ends 23 = .ok (.iconst 0, 1) := by decide +kernel
theorem dX12_ends_24 : decode cX12_ends 24 = .ok (.ireturn, 1) := by decide +kernel
theorem dX12_ends_25 : decode cX12_ends 25 = .ok (.aload_n 0, 1) := by decide +kernel
theorem dX12_ends_26 : decode cX12_ends 26 = .ok (.getfield 48, 3) := by decide +kernel
theorem dX12_ends_29 : decode cX12_ends 29 = .ok (.bipush 8, 2) := by decide +kernel
theorem dX12_ends_31 : decode cX12_ends 31 = .ok (.if_icmp .ne 31, 3) := by decide +kernel
theorem dX12_ends_34 : decode cX12_ends 34 = .ok (.aload_n 0, 1) := by decide +kernel
theorem dX12_ends_35 : decode cX12_ends 35 = .ok (.getfield 19, 3) := by decide +kernel
theorem dX12_ends_38 : decode cX12_ends 38 = .ok (.sipush 147, 3) := by decide +kernel
theorem dX12_ends_41 : decode cX12_ends 41 = .ok (.aload_n 0, 1) := by decide +kernel
theorem dX12_ends_42 : decode cX12_ends 42 = .ok (.getfield 19, 3) := by decide +kernel
theorem dX12_ends_45 : decode cX12_ends 45 = .ok (.iconst 0, 1) := by decide +kernel
theorem dX12_ends_46 : decode cX12_ends 46 = .ok (.sipush 1029, 3) := by decide +kernel
theorem dX12_ends_49 : decode cX12_ends 49 = .ok (.invokestatic 42, 3) := by decide +kernel
theorem dX12_ends_52 : decode cX12_ends 52 = .ok (.aload_n 0, 1) := by decide +kernel
theorem dX12_ends_53 : decode cX12_ends 53 = .ok (.dup, 1) := by decide +kernel
theorem dX12_ends_54 : decode cX12_ends 54 = .ok (.getfield 48, 3) := by decide +kernel
theorem dX12_ends_57 : decode cX12_ends 57 = .ok (.iconst 1, 1) := by decide +kernel
theorem dX12_ends_58 : decode cX12_ends 58 = .ok (.isub, 1) := by decide +kernel
theorem dX12_ends_59 : decode cX12_ends 59 = .ok (.putfield 48, 3) := by decide +kernel
theorem dX12_ends_62 : decode cX12_ends 62 = .ok (.aload_n 0, 1) := by decide +kernel
theorem dX12_ends_63 : decode cX12_ends 63 = .ok (.getfield 13, 3) := by decide +kernel
theorem dX12_ends_66 : decode cX12_ends 66 = .ok (.iconst 0, 1) := by decide +kernel
theorem dX12_ends_67 : decode cX12_ends 67 = .ok (.aload_n 0, 1) := by decide +kernel
theorem dX12_ends_68 : decode cX12_ends 68 = .ok (.getfield 19, 3) := by decide +kernel
theorem dX12_ends_71 : decode cX12_ends 71 = .ok (.sipush 147, 3) := by decide +kernel
theorem dX12_ends_74 : decode cX12_ends 74 = .ok (.aload_n 0, 1) := by decide +kernel
theorem dX12_ends_75 : decode cX12_ends 75 = .ok (.getfield 48, 3) := by decide +kernel
theorem dX12_ends_78 : decode cX12_ends 78 = .ok (.imul, 1) := by decide +kernel
theorem dX12_ends_79 : decode cX12_ends 79 = .ok (.sipush 147, 3) := by decide +kernel
theorem dX12_ends_82 : decode cX12_ends 82 = .ok (.invokestatic 42, 3) := by decide +kernel
theorem dX12_ends_85 : decode cX12_ends 85 = .ok (.aload_n 0, 1) := by decide +kernel
theorem dX12_ends_86 : decode cX12_ends 86 = .ok (.dup, 1) := by decide +kernel
theorem dX12_ends_87 : decode cX12_ends 87 = .ok (.getfield 48, 3) := by decide +kernel
theorem dX12_ends_90 : decode cX12_ends 90 = .ok (.iconst 1, 1) := by decide +kernel
theorem dX12_ends_91 : decode cX12_ends 91 = .ok (.iadd, 1) := by decide +kernel
theorem dX12_ends_92 : decode cX12_ends 92 = .ok (.putfield 48, 3) := by decide +kernel
theorem dX12_ends_95 : decode cX12_ends 95 = .ok (.iload_n 1, 1) := by decide +kernel
theorem dX12_ends_96 : decode cX12_ends 96 = .ok (.ireturn, 1) := by decide +kernel
theorem dX12_fails_0 : decode cX12_fails 0 = .ok (.aload_n 0, 1) := by decide +kernel
theorem dX12_fails_1 : decode cX12_fails 1 = .ok (.iload_n 1, 1) := by decide +kernel
theorem dX12_fails_2 : decode cX12_fails 2 = .ok (.putfield 39, 3) := by decide +kernel
theorem dX12_fails_5 : decode cX12_fails 5 = .ok (.iconst 0, 1) := by decide +kernel
theorem dX12_fails_6 : decode cX12_fails 6 = .ok (.ireturn, 1) := by decide +kernel
theorem dX12_isThere_0 : decode cX12_isThere 0 = .ok (.aload_n 0, 1) := by decide +kernel
theorem dX12_isThere_1 : decode cX12_isThere 1 = .ok (.iload_n 1, 1) := by decide +kernel
theorem dX12_isThere_2 : decode cX12_isThere 2 = .ok (.ifCond .eq 7, 3) := by decide +kernel
theorem dX12_isThere_5 : decode cX12_isThere 5 = .ok (.iconst 0, 1) := by decide +kernel
theorem dX12_isThere_6 : decode cX12_isThere 6 = .ok (.goto 4, 3) := by decide +kernel
theorem dX12_isThere_9 : decode cX12_isThere 9 = .ok (.iconst 1, 1) := by decide +kernel
theorem dX12_isThere_10 : decode cX12_isThere 10 = .ok (.putfield 39, 3) := by decide +kernel
theorem dX12_isThere_13 : decode cX12_isThere 13 = .ok (.iload_n 1, 1) := by decide +kernel
theorem dX12_isThere_14 : decode cX12_isThere 14 = .ok (.ireturn, 1) := by decide +kernel
theorem dX12_isStall_0 : decode cX12_isStall 0 = .ok (.iload_n 1, 1) := by decide +kernel
theorem dX12_isStall_1 : decode cX12_isStall 1 = .ok (.iconst 0, 1) := by decide +kernel
theorem dX12_isStall_2 : decode cX12_isStall 2 = .ok (.aload_n 0, 1) := by decide +kernel
theorem dX12_isStall_3 : decode cX12_isStall 3 = .ok (.getfield 9, 3) := by decide +kernel
theorem dX12_isStall_6 : decode cX12_isStall 6 = .ok (.iconst 0, 1) := by decide +kernel
theorem dX12_isStall_7 : decode cX12_isStall 7 = .ok (.iaload, 1) := by decide +kernel
theorem dX12_isStall_8 : decode cX12_isStall 8 = .ok (.iconst 1, 1) := by decide +kernel
theorem dX12_isStall_9 : decode cX12_isStall 9 = .ok (.isub, 1) := by decide +kernel
theorem dX12_isStall_10 : decode cX12_isStall 10 = .ok (.invokestatic 51, 3) := by decide +kernel
theorem dX12_isStall_13 : decode cX12_isStall 13 = .ok (.ireturn, 1) := by decide +kernel
theorem dX12_stall_0 : decode cX12_stall 0 = .ok (.aload_n 0, 1) := by decide +kernel
theorem dX12_stall_1 : decode cX12_stall 1 = .ok (.getfield 9, 3) := by decide +kernel
theorem dX12_stall_4 : decode cX12_stall 4 = .ok (.bipush 9, 2) := by decide +kernel
theorem dX12_stall_6 : decode cX12_stall 6 = .ok (.iconst 2, 1) := by decide +kernel
theorem dX12_stall_7 : decode cX12_stall 7 = .ok (.iload_n 1, 1) := by decide +kernel
theorem dX12_stall_8 : decode cX12_stall 8 = .ok (.imul, 1) := by decide +kernel
theorem dX12_stall_9 : decode cX12_stall 9 = .ok (.iadd, 1) := by decide +kernel
theorem dX12_stall_10 : decode cX12_stall 10 = .ok (.iload_n 2, 1) := by decide +kernel
theorem dX12_stall_11 : decode cX12_stall 11 = .ok (.iadd, 1) := by decide +kernel
theorem dX12_stall_12 : decode cX12_stall 12 = .ok (.iaload, 1) := by decide +kernel
theorem dX12_stall_13 : decode cX12_stall 13 = .ok (.ireturn, 1) := by decide +kernel
theorem dX12_of_0 : decode cX12_of 0 = .ok (.aload_n 0, 1) := by decide +kernel
theorem dX12_of_1 : decode cX12_of 1 = .ok (.getfield 9, 3) := by decide +kernel
theorem dX12_of_4 : decode cX12_of 4 = .ok (.bipush 21, 2) := by decide +kernel
theorem dX12_of_6 : decode cX12_of 6 = .ok (.bipush 6, 2) := by decide +kernel
theorem dX12_of_8 : decode cX12_of 8 = .ok (.iload_n 1, 1) := by decide +kernel
theorem dX12_of_9 : decode cX12_of 9 = .ok (.imul, 1) := by decide +kernel
theorem dX12_of_10 : decode cX12_of 10 = .ok (.iadd, 1) := by decide +kernel
theorem dX12_of_11 : decode cX12_of 11 = .ok (.iload_n 2, 1) := by decide +kernel
theorem dX12_of_12 : decode cX12_of 12 = .ok (.iadd, 1) := by decide +kernel
theorem dX12_of_13 : decode cX12_of 13 = .ok (.iaload, 1) := by decide +kernel
theorem dX12_of_14 : decode cX12_of 14 = .ok (.ireturn, 1) := by decide +kernel
theorem dX12_buys_0 : decode cX12_buys 0 = .ok (.aload_n 0, 1) := by decide +kernel
theorem dX12_buys_1 : decode cX12_buys 1 = .ok (.iload_n 1, 1) := by decide +kernel
theorem dX12_buys_2 : decode cX12_buys 2 = .ok (.iconst 2, 1) := by decide +kernel
theorem dX12_buys_3 : decode cX12_buys 3 = .ok (.invokevirtual 55, 3) := by decide +kernel
theorem dX12_buys_6 : decode cX12_buys 6 = .ok (.iconst 1, 1) := by decide +kernel
theorem dX12_buys_7 : decode cX12_buys 7 = .ok (.if_icmp .ne 7, 3) := by decide +kernel
theorem dX12_buys_10 : decode cX12_buys 10 = .ok (.iconst 1, 1) := by decide +kernel
theorem dX12_buys_11 : decode cX12_buys 11 = .ok (.goto 4, 3) := by decide +kernel
theorem dX12_buys_14 : decode cX12_buys 14 = .ok (.iconst 0, 1) := by decide +kernel
theorem dX12_buys_15 : decode cX12_buys 15 = .ok (.ireturn, 1) := by decide +kernel
theorem dX12_placeOf_0 : decode cX12_placeOf 0 = .ok (.iconst (-1), 1) := by decide +kernel
theorem dX12_placeOf_1 : decode cX12_placeOf 1 = .ok (.istore_n 2, 1) := by decide +kernel
theorem dX12_placeOf_2 : decode cX12_placeOf 2 = .ok (.iconst 0, 1) := by decide +kernel
theorem dX12_placeOf_3 : decode cX12_placeOf 3 = .ok (.istore_n 3, 1) := by decide +kernel
theorem dX12_placeOf_4 : decode cX12_placeOf 4 = .ok (.iload_n 3, 1) := by decide +kernel
theorem dX12_placeOf_5 : decode cX12_placeOf 5 = .ok (.aload_n 0, 1) := by decide +kernel
theorem dX12_placeOf_6 : decode cX12_placeOf 6 = .ok (.getfield 9, 3) := by decide +kernel
theorem dX12_placeOf_9 : decode cX12_placeOf 9 = .ok (.iconst 1, 1) := by decide +kernel
theorem dX12_placeOf_10 : decode cX12_placeOf 10 = .ok (.iaload, 1) := by decide +kernel
theorem dX12_placeOf_11 : decode cX12_placeOf 11 = .ok (.if_icmp .ge 25, 3) := by decide +kernel
theorem dX12_placeOf_14 : decode cX12_placeOf 14 = .ok (.aload_n 0, 1) := by decide +kernel
theorem dX12_placeOf_15 : decode cX12_placeOf 15 = .ok (.iload_n 3, 1) := by decide +kernel
theorem dX12_placeOf_16 : decode cX12_placeOf 16 = .ok (.iconst 0, 1) := by decide +kernel
theorem dX12_placeOf_17 : decode cX12_placeOf 17 = .ok (.invokevirtual 55, 3) := by decide +kernel
theorem dX12_placeOf_20 : decode cX12_placeOf 20 = .ok (.iload_n 1, 1) := by decide +kernel
theorem dX12_placeOf_21 : decode cX12_placeOf 21 = .ok (.if_icmp .ne 7, 3) := by decide +kernel
theorem dX12_placeOf_24 : decode cX12_placeOf 24 = .ok (.iload_n 3, 1) := by decide +kernel
theorem dX12_placeOf_25 : decode cX12_placeOf 25 = .ok (.goto 4, 3) := by decide +kernel
theorem dX12_placeOf_28 : decode cX12_placeOf 28 = .ok (.iload_n 2, 1) := by decide +kernel
theorem dX12_placeOf_29 : decode cX12_placeOf 29 = .ok (.istore_n 2, 1) := by decide +kernel
theorem dX12_placeOf_30 : decode cX12_placeOf 30 = .ok (.iinc 3 1, 3) := by decide +kernel
theorem dX12_placeOf_33 : decode cX12_placeOf 33 = .ok (.goto (-29), 3) := by decide +kernel
theorem dX12_placeOf_36 : decode cX12_placeOf 36 = .ok (.iload_n 2, 1) := by decide +kernel
theorem dX12_placeOf_37 : decode cX12_placeOf 37 = .ok (.ireturn, 1) := by decide +kernel
theorem dX12_free_0 : decode cX12_free 0 = .ok (.aload_n 0, 1) := by decide +kernel
theorem dX12_free_1 : decode cX12_free 1 = .ok (.iload_n 1, 1) := by decide +kernel
theorem dX12_free_2 : decode cX12_free 2 = .ok (.iload_n 2, 1) := by decide +kernel
theorem dX12_free_3 : decode cX12_free 3 = .ok (.invokevirtual 59, 3) := by decide +kernel
theorem dX12_free_6 : decode cX12_free 6 = .ok (.istore_n 3, 1) := by decide +kernel
theorem dX12_free_7 : decode cX12_free 7 = .ok (.iconst 0, 1) := by decide +kernel
theorem dX12_free_8 : decode cX12_free 8 = .ok (.istore 4, 2) := by decide +kernel
theorem dX12_free_10 : decode cX12_free 10 = .ok (.iload 4, 2) := by decide +kernel
theorem dX12_free_12 : decode cX12_free 12 = .ok (.aload_n 0, 1) := by decide +kernel
theorem dX12_free_13 : decode cX12_free 13 = .ok (.getfield 9, 3) := by decide +kernel
theorem dX12_free_16 : decode cX12_free 16 = .ok (.iconst 1, 1) := by decide +kernel
theorem dX12_free_17 : decode cX12_free 17 = .ok (.iaload, 1) := by decide +kernel
theorem dX12_free_18 : decode cX12_free 18 = .ok (.if_icmp .ge 80, 3) := by decide +kernel
theorem dX12_free_21 : decode cX12_free 21 = .ok (.aload_n 0, 1) := by decide +kernel
theorem dX12_free_22 : decode cX12_free 22 = .ok (.iload 4, 2) := by decide +kernel
theorem dX12_free_24 : decode cX12_free 24 = .ok (.iconst 1, 1) := by decide +kernel
theorem dX12_free_25 : decode cX12_free 25 = .ok (.invokevirtual 55, 3) := by decide +kernel
theorem dX12_free_28 : decode cX12_free 28 = .ok (.iload_n 1, 1) := by decide +kernel
theorem dX12_free_29 : decode cX12_free 29 = .ok (.if_icmp .ne 25, 3) := by decide +kernel
theorem dX12_free_32 : decode cX12_free 32 = .ok (.aload_n 0, 1) := by decide +kernel
theorem dX12_free_33 : decode cX12_free 33 = .ok (.iload 4, 2) := by decide +kernel
theorem dX12_free_35 : decode cX12_free 35 = .ok (.invokevirtual 62, 3) := by decide +kernel
theorem dX12_free_38 : decode cX12_free 38 = .ok (.iload_n 2, 1) := by decide +kernel
theorem dX12_free_39 : decode cX12_free 39 = .ok (.ifCond .ne 7, 3) := by decide +kernel
theorem dX12_free_42 : decode cX12_free 42 = .ok (.iconst 1, 1) := by decide +kernel
theorem dX12_free_43 : decode cX12_free 43 = .ok (.goto 4, 3) := by decide +kernel
theorem dX12_free_46 : decode cX12_free 46 = .ok (.iconst 0, 1) := by decide +kernel
theorem dX12_free_47 : decode cX12_free 47 = .ok (.if_icmp .ne 7, 3) := by decide +kernel
theorem dX12_free_50 : decode cX12_free 50 = .ok (.iconst 1, 1) := by decide +kernel
theorem dX12_free_51 : decode cX12_free 51 = .ok (.goto 4, 3) := by decide +kernel
theorem dX12_free_54 : decode cX12_free 54 = .ok (.iconst 0, 1) := by decide +kernel
theorem dX12_free_55 : decode cX12_free 55 = .ok (.istore 5, 2) := by decide +kernel
theorem dX12_free_57 : decode cX12_free 57 = .ok (.iload_n 3, 1) := by decide +kernel
theorem dX12_free_58 : decode cX12_free 58 = .ok (.iload 5, 2) := by decide +kernel
theorem dX12_free_60 : decode cX12_free 60 = .ok (.ifCond .eq 29, 3) := by decide +kernel
theorem dX12_free_63 : decode cX12_free 63 = .ok (.aload_n 0, 1) := by decide +kernel
theorem dX12_free_64 : decode cX12_free 64 = .ok (.iload 4, 2) := by decide +kernel
theorem dX12_free_66 : decode cX12_free 66 = .ok (.iconst 4, 1) := by decide +kernel
theorem dX12_free_67 : decode cX12_free 67 = .ok (.invokevirtual 55, 3) := by decide +kernel
theorem dX12_free_70 : decode cX12_free 70 = .ok (.iload_n 2, 1) := by decide +kernel
theorem dX12_free_71 : decode cX12_free 71 = .ok (.ifCond .ne 13, 3) := by decide +kernel
theorem dX12_free_74 : decode cX12_free 74 = .ok (.aload_n 0, 1) := by decide +kernel
theorem dX12_free_75 : decode cX12_free 75 = .ok (.iload 4, 2) := by decide +kernel
theorem dX12_free_77 : decode cX12_free 77 = .ok (.iconst 3, 1) := by decide +kernel
theorem dX12_free_78 : decode cX12_free 78 = .ok (.invokevirtual 55, 3) := by decide +kernel
theorem dX12_free_81 : decode cX12_free 81 = .ok (.goto 4, 3) := by decide +kernel
theorem dX12_free_84 : decode cX12_free 84 = .ok (.iconst 1, 1) := by decide +kernel
theorem dX12_free_85 : decode cX12_free 85 = .ok (.imul, 1) := by decide +kernel
theorem dX12_free_86 : decode cX12_free 86 = .ok (.goto 4, 3) := by decide +kernel
theorem dX12_free_89 : decode cX12_free 89 = .ok (.iconst 0, 1) := by decide +kernel
theorem dX12_free_90 : decode cX12_free 90 = .ok (.isub, 1) := by decide +kernel
theorem dX12_free_91 : decode cX12_free 91 = .ok (.istore_n 3, 1) := by decide +kernel
theorem dX12_free_92 : decode cX12_free 92 = .ok (.iinc 4 1, 3) := by decide +kernel
theorem dX12_free_95 : decode cX12_free 95 = .ok (.goto (-85), 3) := by decide +kernel
theorem dX12_free_98 : decode cX12_free 98 = .ok (.iload_n 3, 1) := by decide +kernel
theorem dX12_free_99 : decode cX12_free 99 = .ok (.ireturn, 1) := by decide +kernel
theorem dX12_best_0 : decode cX12_best 0 = .ok (.iconst (-1), 1) := by decide +kernel
theorem dX12_best_1 : decode cX12_best 1 = .ok (.istore_n 2, 1) := by decide +kernel
theorem dX12_best_2 : decode cX12_best 2 = .ok (.iconst 0, 1) := by decide +kernel
theorem dX12_best_3 : decode cX12_best 3 = .ok (.istore_n 3, 1) := by decide +kernel
theorem dX12_best_4 : decode cX12_best 4 = .ok (.iload_n 3, 1) := by decide +kernel
theorem dX12_best_5 : decode cX12_best 5 = .ok (.aload_n 0, 1) := by decide +kernel
theorem dX12_best_6 : decode cX12_best 6 = .ok (.getfield 9, 3) := by decide +kernel
theorem dX12_best_9 : decode cX12_best 9 = .ok (.iconst 1, 1) := by decide +kernel
theorem dX12_best_10 : decode cX12_best 10 = .ok (.iaload, 1) := by decide +kernel
theorem dX12_best_11 : decode cX12_best 11 = .ok (.if_icmp .ge 72, 3) := by decide +kernel
theorem dX12_best_14 : decode cX12_best 14 = .ok (.aload_n 0, 1) := by decide +kernel
theorem dX12_best_15 : decode cX12_best 15 = .ok (.iload_n 3, 1) := by decide +kernel
theorem dX12_best_16 : decode cX12_best 16 = .ok (.invokevirtual 62, 3) := by decide +kernel
theorem dX12_best_19 : decode cX12_best 19 = .ok (.iload_n 1, 1) := by decide +kernel
theorem dX12_best_20 : decode cX12_best 20 = .ok (.if_icmp .ne 57, 3) := by decide +kernel
theorem dX12_best_23 : decode cX12_best 23 = .ok (.iload_n 2, 1) := by decide +kernel
theorem dX12_best_24 : decode cX12_best 24 = .ok (.ifCond .ge 7, 3) := by decide +kernel
theorem dX12_best_27 : decode cX12_best 27 = .ok (.iconst 1, 1) := by decide +kernel
theorem dX12_best_28 : decode cX12_best 28 = .ok (.goto 36, 3) := by decide +kernel
theorem dX12_best_31 : decode cX12_best 31 = .ok (.iload_n 1, 1) := by decide +kernel
theorem dX12_best_32 : decode cX12_best 32 = .ok (.ifCond .eq 19, 3) := by decide +kernel
theorem dX12_best_35 : decode cX12_best 35 = .ok (.aload_n 0, 1) := by decide +kernel
theorem dX12_best_36 : decode cX12_best 36 = .ok (.iload_n 3, 1) := by decide +kernel
theorem dX12_best_37 : decode cX12_best 37 = .ok (.iconst 3, 1) := by decide +kernel
theorem dX12_best_38 : decode cX12_best 38 = .ok (.invokevirtual 55, 3) := by decide +kernel
theorem dX12_best_41 : decode cX12_best 41 = .ok (.aload_n 0, 1) := by decide +kernel
theorem dX12_best_42 : decode cX12_best 42 = .ok (.iload_n 2, 1) := by decide +kernel
theorem dX12_best_43 : decode cX12_best 43 = .ok (.iconst 3, 1) := by decide +kernel
theorem dX12_best_44 : decode cX12_best 44 = .ok (.invokevirtual 55, 3) := by decide +kernel
theorem dX12_best_47 : decode cX12_best 47 = .ok (.isub, 1) := by decide +kernel
theorem dX12_best_48 : decode cX12_best 48 = .ok (.goto 16, 3) := by decide +kernel
theorem dX12_best_51 : decode cX12_best 51 = .ok (.aload_n 0, 1) := by decide +kernel
theorem dX12_best_52 : decode cX12_best 52 = .ok (.iload_n 2, 1) := by decide +kernel
theorem dX12_best_53 : decode cX12_best 53 = .ok (.iconst 3, 1) := by decide +kernel
theorem dX12_best_54 : decode cX12_best 54 = .ok (.invokevirtual 55, 3) := by decide +kernel
theorem dX12_best_57 : decode cX12_best 57 = .ok (.aload_n 0, 1) := by decide +kernel
theorem dX12_best_58 : decode cX12_best 58 = .ok (.iload_n 3, 1) := by decide +kernel
theorem dX12_best_59 : decode cX12_best 59 = .ok (.iconst 3, 1) := by decide +kernel
theorem dX12_best_60 : decode cX12_best 60 = .ok (.invokevirtual 55, 3) := by decide +kernel
theorem dX12_best_63 : decode cX12_best 63 = .ok (.isub, 1) := by decide +kernel
theorem dX12_best_64 : decode cX12_best 64 = .ok (.istore 4, 2) := by decide +kernel
theorem dX12_best_66 : decode cX12_best 66 = .ok (.iload 4, 2) := by decide +kernel
theorem dX12_best_68 : decode cX12_best 68 = .ok (.ifCond .le 7, 3) := by decide +kernel
theorem dX12_best_71 : decode cX12_best 71 = .ok (.iload_n 3, 1) := by decide +kernel
theorem dX12_best_72 : decode cX12_best 72 = .ok (.goto 4, 3) := by decide +kernel
theorem dX12_best_75 : decode cX12_best 75 = .ok (.iload_n 2, 1) := by decide +kernel
theorem dX12_best_76 : decode cX12_best 76 = .ok (.istore_n 2, 1) := by decide +kernel
theorem dX12_best_77 : decode cX12_best 77 = .ok (.iinc 3 1, 3) := by decide +kernel
theorem dX12_best_80 : decode cX12_best 80 = .ok (.goto (-76), 3) := by decide +kernel
theorem dX12_best_83 : decode cX12_best 83 = .ok (.iload_n 2, 1) := by decide +kernel
theorem dX12_best_84 : decode cX12_best 84 = .ok (.ireturn, 1) := by decide +kernel
theorem dX12_drops_0 : decode cX12_drops 0 = .ok (.aload_n 0, 1) := by decide +kernel
theorem dX12_drops_1 : decode cX12_drops 1 = .ok (.getfield 9, 3) := by decide +kernel
theorem dX12_drops_4 : decode cX12_drops 4 = .ok (.iconst 1, 1) := by decide +kernel
theorem dX12_drops_5 : decode cX12_drops 5 = .ok (.dup2, 1) := by decide +kernel
theorem dX12_drops_6 : decode cX12_drops 6 = .ok (.iaload, 1) := by decide +kernel
theorem dX12_drops_7 : decode cX12_drops 7 = .ok (.iconst 1, 1) := by decide +kernel
theorem dX12_drops_8 : decode cX12_drops 8 = .ok (.isub, 1) := by decide +kernel
theorem dX12_drops_9 : decode cX12_drops 9 = .ok (.iastore, 1) := by decide +kernel
theorem dX12_drops_10 : decode cX12_drops 10 = .ok (.bipush 21, 2) := by decide +kernel
theorem dX12_drops_12 : decode cX12_drops 12 = .ok (.bipush 6, 2) := by decide +kernel
theorem dX12_drops_14 : decode cX12_drops 14 = .ok (.iload_n 1, 1) := by decide +kernel
theorem dX12_drops_15 : decode cX12_drops 15 = .ok (.imul, 1) := by decide +kernel
theorem dX12_drops_16 : decode cX12_drops 16 = .ok (.iadd, 1) := by decide +kernel
theorem dX12_drops_17 : decode cX12_drops 17 = .ok (.istore_n 2, 1) := by decide +kernel
theorem dX12_drops_18 : decode cX12_drops 18 = .ok (.aload_n 0, 1) := by decide +kernel
theorem dX12_drops_19 : decode cX12_drops 19 = .ok (.getfield 9, 3) := by decide +kernel
theorem dX12_drops_22 : decode cX12_drops 22 = .ok (.iload_n 2, 1) := by decide +kernel
theorem dX12_drops_23 : decode cX12_drops 23 = .ok (.bipush 6, 2) := by decide +kernel
theorem dX12_drops_25 : decode cX12_drops 25 = .ok (.iadd, 1) := by decide +kernel
theorem dX12_drops_26 : decode cX12_drops 26 = .ok (.aload_n 0, 1) := by decide +kernel
theorem dX12_drops_27 : decode cX12_drops 27 = .ok (.getfield 9, 3) := by decide +kernel
theorem dX12_drops_30 : decode cX12_drops 30 = .ok (.iload_n 2, 1) := by decide +kernel
theorem dX12_drops_31 : decode cX12_drops 31 = .ok (.bipush 6, 2) := by decide +kernel
theorem dX12_drops_33 : decode cX12_drops 33 = .ok (.aload_n 0, 1) := by decide +kernel
theorem dX12_drops_34 : decode cX12_drops 34 = .ok (.getfield 9, 3) := by decide +kernel
theorem dX12_drops_37 : decode cX12_drops 37 = .ok (.iconst 1, 1) := by decide +kernel
theorem dX12_drops_38 : decode cX12_drops 38 = .ok (.iaload, 1) := by decide +kernel
theorem dX12_drops_39 : decode cX12_drops 39 = .ok (.iload_n 1, 1) := by decide +kernel
theorem dX12_drops_40 : decode cX12_drops 40 = .ok (.isub, 1) := by decide +kernel
theorem dX12_drops_41 : decode cX12_drops 41 = .ok (.imul, 1) := by decide +kernel
theorem dX12_drops_42 : decode cX12_drops 42 = .ok (.invokestatic 42, 3) := by decide +kernel
theorem dX12_drops_45 : decode cX12_drops 45 = .ok (.return_, 1) := by decide +kernel
theorem dX12_pays_0 : decode cX12_pays 0 = .ok (.aload_n 0, 1) := by decide +kernel
theorem dX12_pays_1 : decode cX12_pays 1 = .ok (.getfield 9, 3) := by decide +kernel
theorem dX12_pays_4 : decode cX12_pays 4 = .ok (.bipush 9, 2) := by decide +kernel
theorem dX12_pays_6 : decode cX12_pays 6 = .ok (.iconst 2, 1) := by decide +kernel
theorem dX12_pays_7 : decode cX12_pays 7 = .ok (.iload_n 1, 1) := by decide +kernel
theorem dX12_pays_8 : decode cX12_pays 8 = .ok (.imul, 1) := by decide +kernel
theorem dX12_pays_9 : decode cX12_pays 9 = .ok (.iadd, 1) := by decide +kernel
theorem dX12_pays_10 : decode cX12_pays 10 = .ok (.dup2, 1) := by decide +kernel
theorem dX12_pays_11 : decode cX12_pays 11 = .ok (.iaload, 1) := by decide +kernel
theorem dX12_pays_12 : decode cX12_pays 12 = .ok (.iload_n 3, 1) := by decide +kernel
theorem dX12_pays_13 : decode cX12_pays 13 = .ok (.iload 4, 2) := by decide +kernel
theorem dX12_pays_15 : decode cX12_pays 15 = .ok (.imul, 1) := by decide +kernel
theorem dX12_pays_16 : decode cX12_pays 16 = .ok (.isub, 1) := by decide +kernel
theorem dX12_pays_17 : decode cX12_pays 17 = .ok (.iastore, 1) := by decide +kernel
theorem dX12_pays_18 : decode cX12_pays 18 = .ok (.aload_n 0, 1) := by decide +kernel
theorem dX12_pays_19 : decode cX12_pays 19 = .ok (.getfield 9, 3) := by decide +kernel
theorem dX12_pays_22 : decode cX12_pays 22 = .ok (.bipush 9, 2) := by decide +kernel
theorem dX12_pays_24 : decode cX12_pays 24 = .ok (.iconst 2, 1) := by decide +kernel
theorem dX12_pays_25 : decode cX12_pays 25 = .ok (.iload_n 2, 1) := by decide +kernel
theorem dX12_pays_26 : decode cX12_pays 26 = .ok (.imul, 1) := by decide +kernel
theorem dX12_pays_27 : decode cX12_pays 27 = .ok (.iadd, 1) := by decide +kernel
theorem dX12_pays_28 : decode cX12_pays 28 = .ok (.dup2, 1) := by decide +kernel
theorem dX12_pays_29 : decode cX12_pays 29 = .ok (.iaload, 1) := by decide +kernel
theorem dX12_pays_30 : decode cX12_pays 30 = .ok (.iload_n 3, 1) := by decide +kernel
theorem dX12_pays_31 : decode cX12_pays 31 = .ok (.iload 4, 2) := by decide +kernel
theorem dX12_pays_33 : decode cX12_pays 33 = .ok (.imul, 1) := by decide +kernel
theorem dX12_pays_34 : decode cX12_pays 34 = .ok (.iadd, 1) := by decide +kernel
theorem dX12_pays_35 : decode cX12_pays 35 = .ok (.iastore, 1) := by decide +kernel
theorem dX12_pays_36 : decode cX12_pays 36 = .ok (.aload_n 0, 1) := by decide +kernel
theorem dX12_pays_37 : decode cX12_pays 37 = .ok (.getfield 9, 3) := by decide +kernel
theorem dX12_pays_40 : decode cX12_pays 40 = .ok (.bipush 9, 2) := by decide +kernel
theorem dX12_pays_42 : decode cX12_pays 42 = .ok (.iconst 2, 1) := by decide +kernel
theorem dX12_pays_43 : decode cX12_pays 43 = .ok (.iload_n 1, 1) := by decide +kernel
theorem dX12_pays_44 : decode cX12_pays 44 = .ok (.imul, 1) := by decide +kernel
theorem dX12_pays_45 : decode cX12_pays 45 = .ok (.iadd, 1) := by decide +kernel
theorem dX12_pays_46 : decode cX12_pays 46 = .ok (.iconst 1, 1) := by decide +kernel
theorem dX12_pays_47 : decode cX12_pays 47 = .ok (.iadd, 1) := by decide +kernel
theorem dX12_pays_48 : decode cX12_pays 48 = .ok (.dup2, 1) := by decide +kernel
theorem dX12_pays_49 : decode cX12_pays 49 = .ok (.iaload, 1) := by decide +kernel
theorem dX12_pays_50 : decode cX12_pays 50 = .ok (.iload 4, 2) := by decide +kernel
theorem dX12_pays_52 : decode cX12_pays 52 = .ok (.iadd, 1) := by decide +kernel
theorem dX12_pays_53 : decode cX12_pays 53 = .ok (.iastore, 1) := by decide +kernel
theorem dX12_pays_54 : decode cX12_pays 54 = .ok (.aload_n 0, 1) := by decide +kernel
theorem dX12_pays_55 : decode cX12_pays 55 = .ok (.getfield 9, 3) := by decide +kernel
theorem dX12_pays_58 : decode cX12_pays 58 = .ok (.bipush 9, 2) := by decide +kernel
theorem dX12_pays_60 : decode cX12_pays 60 = .ok (.iconst 2, 1) := by decide +kernel
theorem dX12_pays_61 : decode cX12_pays 61 = .ok (.iload_n 2, 1) := by decide +kernel
theorem dX12_pays_62 : decode cX12_pays 62 = .ok (.imul, 1) := by decide +kernel
theorem dX12_pays_63 : decode cX12_pays 63 = .ok (.iadd, 1) := by decide +kernel
theorem dX12_pays_64 : decode cX12_pays 64 = .ok (.iconst 1, 1) := by decide +kernel
theorem dX12_pays_65 : decode cX12_pays 65 = .ok (.iadd, 1) := by decide +kernel
theorem dX12_pays_66 : decode cX12_pays 66 = .ok (.dup2, 1) := by decide +kernel
theorem dX12_pays_67 : decode cX12_pays 67 = .ok (.iaload, 1) := by decide +kernel
theorem dX12_pays_68 : decode cX12_pays 68 = .ok (.iload 4, 2) := by decide +kernel
theorem dX12_pays_70 : decode cX12_pays 70 = .ok (.isub, 1) := by decide +kernel
theorem dX12_pays_71 : decode cX12_pays 71 = .ok (.iastore, 1) := by decide +kernel
theorem dX12_pays_72 : decode cX12_pays 72 = .ok (.aload_n 0, 1) := by decide +kernel
theorem dX12_pays_73 : decode cX12_pays 73 = .ok (.getfield 9, 3) := by decide +kernel
theorem dX12_pays_76 : decode cX12_pays 76 = .ok (.iconst 5, 1) := by decide +kernel
theorem dX12_pays_77 : decode cX12_pays 77 = .ok (.iload_n 3, 1) := by decide +kernel
theorem dX12_pays_78 : decode cX12_pays 78 = .ok (.iastore, 1) := by decide +kernel
theorem dX12_pays_79 : decode cX12_pays 79 = .ok (.aload_n 0, 1) := by decide +kernel
theorem dX12_pays_80 : decode cX12_pays 80 = .ok (.getfield 9, 3) := by decide +kernel
theorem dX12_pays_83 : decode cX12_pays 83 = .ok (.bipush 6, 2) := by decide +kernel
theorem dX12_pays_85 : decode cX12_pays 85 = .ok (.dup2, 1) := by decide +kernel
theorem dX12_pays_86 : decode cX12_pays 86 = .ok (.iaload, 1) := by decide +kernel
theorem dX12_pays_87 : decode cX12_pays 87 = .ok (.iconst 1, 1) := by decide +kernel
theorem dX12_pays_88 : decode cX12_pays 88 = .ok (.iadd, 1) := by decide +kernel
theorem dX12_pays_89 : decode cX12_pays 89 = .ok (.iastore, 1) := by decide +kernel
theorem dX12_pays_90 : decode cX12_pays 90 = .ok (.aload_n 0, 1) := by decide +kernel
theorem dX12_pays_91 : decode cX12_pays 91 = .ok (.getfield 9, 3) := by decide +kernel
theorem dX12_pays_94 : decode cX12_pays 94 = .ok (.bipush 7, 2) := by decide +kernel
theorem dX12_pays_96 : decode cX12_pays 96 = .ok (.dup2, 1) := by decide +kernel
theorem dX12_pays_97 : decode cX12_pays 97 = .ok (.iaload, 1) := by decide +kernel
theorem dX12_pays_98 : decode cX12_pays 98 = .ok (.iload 4, 2) := by decide +kernel
theorem dX12_pays_100 : decode cX12_pays 100 = .ok (.iadd, 1) := by decide +kernel
theorem dX12_pays_101 : decode cX12_pays 101 = .ok (.iastore, 1) := by decide +kernel
theorem dX12_pays_102 : decode cX12_pays 102 = .ok (.aload_n 0, 1) := by decide +kernel
theorem dX12_pays_103 : decode cX12_pays 103 = .ok (.getfield 9, 3) := by decide +kernel
theorem dX12_pays_106 : decode cX12_pays 106 = .ok (.bipush 8, 2) := by decide +kernel
theorem dX12_pays_108 : decode cX12_pays 108 = .ok (.dup2, 1) := by decide +kernel
theorem dX12_pays_109 : decode cX12_pays 109 = .ok (.iaload, 1) := by decide +kernel
theorem dX12_pays_110 : decode cX12_pays 110 = .ok (.iload_n 3, 1) := by decide +kernel
theorem dX12_pays_111 : decode cX12_pays 111 = .ok (.iload 4, 2) := by decide +kernel
theorem dX12_pays_113 : decode cX12_pays 113 = .ok (.imul, 1) := by decide +kernel
theorem dX12_pays_114 : decode cX12_pays 114 = .ok (.iadd, 1) := by decide +kernel
theorem dX12_pays_115 : decode cX12_pays 115 = .ok (.iastore, 1) := by decide +kernel
theorem dX12_pays_116 : decode cX12_pays 116 = .ok (.return_, 1) := by decide +kernel
theorem dX12_takes_0 : decode cX12_takes 0 = .ok (.aload_n 0, 1) := by decide +kernel
theorem dX12_takes_1 : decode cX12_takes 1 = .ok (.getfield 9, 3) := by decide +kernel
theorem dX12_takes_4 : decode cX12_takes 4 = .ok (.bipush 21, 2) := by decide +kernel
theorem dX12_takes_6 : decode cX12_takes 6 = .ok (.bipush 6, 2) := by decide +kernel
theorem dX12_takes_8 : decode cX12_takes 8 = .ok (.iload_n 1, 1) := by decide +kernel
theorem dX12_takes_9 : decode cX12_takes 9 = .ok (.imul, 1) := by decide +kernel
theorem dX12_takes_10 : decode cX12_takes 10 = .ok (.iadd, 1) := by decide +kernel
theorem dX12_takes_11 : decode cX12_takes 11 = .ok (.iconst 4, 1) := by decide +kernel
theorem dX12_takes_12 : decode cX12_takes 12 = .ok (.iadd, 1) := by decide +kernel
theorem dX12_takes_13 : decode cX12_takes 13 = .ok (.dup2, 1) := by decide +kernel
theorem dX12_takes_14 : decode cX12_takes 14 = .ok (.iaload, 1) := by decide +kernel
theorem dX12_takes_15 : decode cX12_takes 15 = .ok (.iload_n 2, 1) := by decide +kernel
theorem dX12_takes_16 : decode cX12_takes 16 = .ok (.isub, 1) := by decide +kernel
theorem dX12_takes_17 : decode cX12_takes 17 = .ok (.iastore, 1) := by decide +kernel
theorem dX12_takes_18 : decode cX12_takes 18 = .ok (.aload_n 0, 1) := by decide +kernel
theorem dX12_takes_19 : decode cX12_takes 19 = .ok (.iload_n 1, 1) := by decide +kernel
theorem dX12_takes_20 : decode cX12_takes 20 = .ok (.iconst 4, 1) := by decide +kernel
theorem dX12_takes_21 : decode cX12_takes 21 = .ok (.invokevirtual 55, 3) := by decide +kernel
theorem dX12_takes_24 : decode cX12_takes 24 = .ok (.ifCond .ne 8, 3) := by decide +kernel
theorem dX12_takes_27 : decode cX12_takes 27 = .ok (.aload_n 0, 1) := by decide +kernel
theorem dX12_takes_28 : decode cX12_takes 28 = .ok (.iload_n 1, 1) := by decide +kernel
theorem dX12_takes_29 : decode cX12_takes 29 = .ok (.invokevirtual 66, 3) := by decide +kernel
theorem dX12_takes_32 : decode cX12_takes 32 = .ok (.return_, 1) := by decide +kernel
theorem dX12_trades_0 : decode cX12_trades 0 = .ok (.iload 4, 2) := by decide +kernel
theorem dX12_trades_2 : decode cX12_trades 2 = .ok (.istore 5, 2) := by decide +kernel
theorem dX12_trades_4 : decode cX12_trades 4 = .ok (.aload_n 0, 1) := by decide +kernel
theorem dX12_trades_5 : decode cX12_trades 5 = .ok (.iload_n 2, 1) := by decide +kernel
theorem dX12_trades_6 : decode cX12_trades 6 = .ok (.ifCond .ne 7, 3) := by decide +kernel
theorem dX12_trades_9 : decode cX12_trades 9 = .ok (.iconst 1, 1) := by decide +kernel
theorem dX12_trades_10 : decode cX12_trades 10 = .ok (.goto 4, 3) := by decide +kernel
theorem dX12_trades_13 : decode cX12_trades 13 = .ok (.iconst 0, 1) := by decide +kernel
theorem dX12_trades_14 : decode cX12_trades 14 = .ok (.invokevirtual 70, 3) := by decide +kernel
theorem dX12_trades_17 : decode cX12_trades 17 = .ok (.istore 6, 2) := by decide +kernel
theorem dX12_trades_19 : decode cX12_trades 19 = .ok (.iload 5, 2) := by decide +kernel
theorem dX12_trades_21 : decode cX12_trades 21 = .ok (.ifCond .le 126, 3) := by decide +kernel
theorem dX12_trades_24 : decode cX12_trades 24 = .ok (.iload 6, 2) := by decide +kernel
theorem dX12_trades_26 : decode cX12_trades 26 = .ok (.ifCond .lt 121, 3) := by decide +kernel
theorem dX12_trades_29 : decode cX12_trades 29 = .ok (.iload_n 2, 1) := by decide +kernel
theorem dX12_trades_30 : decode cX12_trades 30 = .ok (.ifCond .eq 17, 3) := by decide +kernel
theorem dX12_trades_33 : decode cX12_trades 33 = .ok (.aload_n 0, 1) := by decide +kernel
theorem dX12_trades_34 : decode cX12_trades 34 = .ok (.iload 6, 2) := by decide +kernel
theorem dX12_trades_36 : decode cX12_trades 36 = .ok (.iconst 3, 1) := by decide +kernel
theorem dX12_trades_37 : decode cX12_trades 37 = .ok (.invokevirtual 55, 3) := by decide +kernel
theorem dX12_trades_40 : decode cX12_trades 40 = .ok (.iload_n 3, 1) := by decide +kernel
theorem dX12_trades_41 : decode cX12_trades 41 = .ok (.if_icmp .gt 106, 3) := by decide +kernel
theorem dX12_trades_44 : decode cX12_trades 44 = .ok (.goto 14, 3) := by decide +kernel
theorem dX12_trades_47 : decode cX12_trades 47 = .ok (.aload_n 0, 1) := by decide +kernel
theorem dX12_trades_48 : decode cX12_trades 48 = .ok (.iload 6, 2) := by decide +kernel
theorem dX12_trades_50 : decode cX12_trades 50 = .ok (.iconst 3, 1) := by decide +kernel
theorem dX12_trades_51 : decode cX12_trades 51 = .ok (.invokevirtual 55, 3) := by decide +kernel
theorem dX12_trades_54 : decode cX12_trades 54 = .ok (.iload_n 3, 1) := by decide +kernel
theorem dX12_trades_55 : decode cX12_trades 55 = .ok (.if_icmp .lt 92, 3) := by decide +kernel
theorem dX12_trades_58 : decode cX12_trades 58 = .ok (.iload 5, 2) := by decide +kernel
theorem dX12_trades_60 : decode cX12_trades 60 = .ok (.aload_n 0, 1) := by decide +kernel
theorem dX12_trades_61 : decode cX12_trades 61 = .ok (.iload 6, 2) := by decide +kernel
theorem dX12_trades_63 : decode cX12_trades 63 = .ok (.iconst 4, 1) := by decide +kernel
theorem dX12_trades_64 : decode cX12_trades 64 = .ok (.invokevirtual 55, 3) := by decide +kernel
theorem dX12_trades_67 : decode cX12_trades 67 = .ok (.invokestatic 74, 3) := by decide +kernel
theorem dX12_trades_70 : decode cX12_trades 70 = .ok (.istore 7, 2) := by decide +kernel
theorem dX12_trades_72 : decode cX12_trades 72 = .ok (.aload_n 0, 1) := by decide +kernel
theorem dX12_trades_73 : decode cX12_trades 73 = .ok (.iload 6, 2) := by decide +kernel
theorem dX12_trades_75 : decode cX12_trades 75 = .ok (.iconst 1, 1) := by decide +kernel
theorem dX12_trades_76 : decode cX12_trades 76 = .ok (.invokevirtual 55, 3) := by decide +kernel
theorem dX12_trades_79 : decode cX12_trades 79 = .ok (.istore 8, 2) := by decide +kernel
theorem dX12_trades_81 : decode cX12_trades 81 = .ok (.aload_n 0, 1) := by decide +kernel
theorem dX12_trades_82 : decode cX12_trades 82 = .ok (.iload_n 2, 1) := by decide +kernel
theorem dX12_trades_83 : decode cX12_trades 83 = .ok (.ifCond .eq 7, 3) := by decide +kernel
theorem dX12_trades_86 : decode cX12_trades 86 = .ok (.iload_n 1, 1) := by decide +kernel
theorem dX12_trades_87 : decode cX12_trades 87 = .ok (.goto 5, 3) := by decide +kernel
theorem dX12_trades_90 : decode cX12_trades 90 = .ok (.iload 8, 2) := by decide +kernel
theorem dX12_trades_92 : decode cX12_trades 92 = .ok (.iload_n 2, 1) := by decide +kernel
theorem dX12_trades_93 : decode cX12_trades 93 = .ok (.ifCond .eq 8, 3) := by decide +kernel
theorem dX12_trades_96 : decode cX12_trades 96 = .ok (.iload 8, 2) := by decide +kernel
theorem dX12_trades_98 : decode cX12_trades 98 = .ok (.goto 4, 3) := by decide +kernel
theorem dX12_trades_101 : decode cX12_trades 101 = .ok (.iload_n 1, 1) := by decide +kernel
theorem dX12_trades_102 : decode cX12_trades 102 = .ok (.aload_n 0, 1) := by decide +kernel
theorem dX12_trades_103 : decode cX12_trades 103 = .ok (.iload 6, 2) := by decide +kernel
theorem dX12_trades_105 : decode cX12_trades 105 = .ok (.iconst 3, 1) := by decide +kernel
theorem dX12_trades_106 : decode cX12_trades 106 = .ok (.invokevirtual 55, 3) := by decide +kernel
theorem dX12_trades_109 : decode cX12_trades 109 = .ok (.iload 7, 2) := by decide +kernel
theorem dX12_trades_111 : decode cX12_trades 111 = .ok (.invokevirtual 79, 3) := by decide +kernel
theorem dX12_trades_114 : decode cX12_trades 114 = .ok (.aload_n 0, 1) := by decide +kernel
theorem dX12_trades_115 : decode cX12_trades 115 = .ok (.iload 6, 2) := by decide +kernel
theorem dX12_trades_117 : decode cX12_trades 117 = .ok (.iload 7, 2) := by decide +kernel
theorem dX12_trades_119 : decode cX12_trades 119 = .ok (.invokevirtual 83, 3) := by decide +kernel
theorem dX12_trades_122 : decode cX12_trades 122 = .ok (.iload 5, 2) := by decide +kernel
theorem dX12_trades_124 : decode cX12_trades 124 = .ok (.iload 7, 2) := by decide +kernel
theorem dX12_trades_126 : decode cX12_trades 126 = .ok (.isub, 1) := by decide +kernel
theorem dX12_trades_127 : decode cX12_trades 127 = .ok (.istore 5, 2) := by decide +kernel
theorem dX12_trades_129 : decode cX12_trades 129 = .ok (.aload_n 0, 1) := by decide +kernel
theorem dX12_trades_130 : decode cX12_trades 130 = .ok (.iload_n 2, 1) := by decide +kernel
theorem dX12_trades_131 : decode cX12_trades 131 = .ok (.ifCond .ne 7, 3) := by decide +kernel
theorem dX12_trades_134 : decode cX12_trades 134 = .ok (.iconst 1, 1) := by decide +kernel
theorem dX12_trades_135 : decode cX12_trades 135 = .ok (.goto 4, 3) := by decide +kernel
theorem dX12_trades_138 : decode cX12_trades 138 = .ok (.iconst 0, 1) := by decide +kernel
theorem dX12_trades_139 : decode cX12_trades 139 = .ok (.invokevirtual 70, 3) := by decide +kernel
theorem dX12_trades_142 : decode cX12_trades 142 = .ok (.istore 6, 2) := by decide +kernel
theorem dX12_trades_144 : decode cX12_trades 144 = .ok (.goto (-125), 3) := by decide +kernel
theorem dX12_trades_147 : decode cX12_trades 147 = .ok (.iload 5, 2) := by decide +kernel
theorem dX12_trades_149 : decode cX12_trades 149 = .ok (.ireturn, 1) := by decide +kernel
theorem dX12_doPlace_0 : decode cX12_doPlace 0 = .ok (.aload_n 0, 1) := by decide +kernel
theorem dX12_doPlace_1 : decode cX12_doPlace 1 = .ok (.iload_n 1, 1) := by decide +kernel
theorem dX12_doPlace_2 : decode cX12_doPlace 2 = .ok (.invokevirtual 87, 3) := by decide +kernel
theorem dX12_doPlace_5 : decode cX12_doPlace 5 = .ok (.ifCond .ne 9, 3) := by decide +kernel
theorem dX12_doPlace_8 : decode cX12_doPlace 8 = .ok (.aload_n 0, 1) := by decide +kernel
theorem dX12_doPlace_9 : decode cX12_doPlace 9 = .ok (.iconst 1, 1) := by decide +kernel
theorem dX12_doPlace_10 : decode cX12_doPlace 10 = .ok (.invokevirtual 90, 3) := by decide +kernel
theorem dX12_doPlace_13 : decode cX12_doPlace 13 = .ok (.ireturn, 1) := by decide +kernel
theorem dX12_doPlace_14 : decode cX12_doPlace 14 = .ok (.iload_n 3, 1) := by decide +kernel
theorem dX12_doPlace_15 : decode cX12_doPlace 15 = .ok (.iconst 1, 1) := by decide +kernel
theorem dX12_doPlace_16 : decode cX12_doPlace 16 = .ok (.bipush 99, 2) := by decide +kernel
theorem dX12_doPlace_18 : decode cX12_doPlace 18 = .ok (.invokestatic 51, 3) := by decide +kernel
theorem dX12_doPlace_21 : decode cX12_doPlace 21 = .ok (.ifCond .eq 21, 3) := by decide +kernel
theorem dX12_doPlace_24 : decode cX12_doPlace 24 = .ok (.iload 4, 2) := by decide +kernel
theorem dX12_doPlace_26 : decode cX12_doPlace 26 = .ok (.iconst 1, 1) := by decide +kernel
theorem dX12_doPlace_27 : decode cX12_doPlace 27 = .ok (.bipush 50, 2) := by decide +kernel
theorem dX12_doPlace_29 : decode cX12_doPlace 29 = .ok (.invokestatic 51, 3) := by decide +kernel
theorem dX12_doPlace_32 : decode cX12_doPlace 32 = .ok (.ifCond .eq 10, 3) := by decide +kernel
theorem dX12_doPlace_35 : decode cX12_doPlace 35 = .ok (.iload 5, 2) := by decide +kernel
theorem dX12_doPlace_37 : decode cX12_doPlace 37 = .ok (.bipush 60, 2) := by decide +kernel
theorem dX12_doPlace_39 : decode cX12_doPlace 39 = .ok (.if_icmp .le 9, 3) := by decide +kernel
theorem dX12_doPlace_42 : decode cX12_doPlace 42 = .ok (.aload_n 0, 1) := by decide +kernel
theorem dX12_doPlace_43 : decode cX12_doPlace 43 = .ok (.iconst 2, 1) := by decide +kernel
theorem dX12_doPlace_44 : decode cX12_doPlace 44 = .ok (.invokevirtual 90, 3) := by decide +kernel
theorem dX12_doPlace_47 : decode cX12_doPlace 47 = .ok (.ireturn, 1) := by decide +kernel
theorem dX12_doPlace_48 : decode cX12_doPlace 48 = .ok (.iload 5, 2) := by decide +kernel
theorem dX12_doPlace_50 : decode cX12_doPlace 50 = .ok (.iconst (-1), 1) := by decide +kernel
theorem dX12_doPlace_51 : decode cX12_doPlace 51 = .ok (.if_icmp .ne 16, 3) := by decide +kernel
theorem dX12_doPlace_54 : decode cX12_doPlace 54 = .ok (.aload_n 0, 1) := by decide +kernel
theorem dX12_doPlace_55 : decode cX12_doPlace 55 = .ok (.getfield 9, 3) := by decide +kernel
theorem dX12_doPlace_58 : decode cX12_doPlace 58 = .ok (.iconst 4, 1) := by decide +kernel
theorem dX12_doPlace_59 : decode cX12_doPlace 59 = .ok (.iaload, 1) := by decide +kernel
theorem dX12_doPlace_60 : decode cX12_doPlace 60 = .ok (.iconst 1, 1) := by decide +kernel
theorem dX12_doPlace_61 : decode cX12_doPlace 61 = .ok (.if_icmp .ne 23, 3) := by decide +kernel
theorem dX12_doPlace_64 : decode cX12_doPlace 64 = .ok (.goto 14, 3) := by decide +kernel
theorem dX12_doPlace_67 : decode cX12_doPlace 67 = .ok (.aload_n 0, 1) := by decide +kernel
theorem dX12_doPlace_68 : decode cX12_doPlace 68 = .ok (.getfield 9, 3) := by decide +kernel
theorem dX12_doPlace_71 : decode cX12_doPlace 71 = .ok (.iconst 1, 1) := by decide +kernel
theorem dX12_doPlace_72 : decode cX12_doPlace 72 = .ok (.iaload, 1) := by decide +kernel
theorem dX12_doPlace_73 : decode cX12_doPlace 73 = .ok (.bipush 20, 2) := by decide +kernel
theorem dX12_doPlace_75 : decode cX12_doPlace 75 = .ok (.if_icmp .ne 9, 3) := by decide +kernel
theorem dX12_doPlace_78 : decode cX12_doPlace 78 = .ok (.aload_n 0, 1) := by decide +kernel
theorem dX12_doPlace_79 : decode cX12_doPlace 79 = .ok (.iconst 3, 1) := by decide +kernel
theorem dX12_doPlace_80 : decode cX12_doPlace 80 = .ok (.invokevirtual 90, 3) := by decide +kernel
theorem dX12_doPlace_83 : decode cX12_doPlace 83 = .ok (.ireturn, 1) := by decide +kernel
theorem dX12_doPlace_84 : decode cX12_doPlace 84 = .ok (.iload_n 2, 1) := by decide +kernel
theorem dX12_doPlace_85 : decode cX12_doPlace 85 = .ok (.ifCond .eq 19, 3) := by decide +kernel
theorem dX12_doPlace_88 : decode cX12_doPlace 88 = .ok (.aload_n 0, 1) := by decide +kernel
theorem dX12_doPlace_89 : decode cX12_doPlace 89 = .ok (.iload_n 1, 1) := by decide +kernel
theorem dX12_doPlace_90 : decode cX12_doPlace 90 = .ok (.iconst 0, 1) := by decide +kernel
theorem dX12_doPlace_91 : decode cX12_doPlace 91 = .ok (.invokevirtual 94, 3) := by decide +kernel
theorem dX12_doPlace_94 : decode cX12_doPlace 94 = .ok (.iload_n 3, 1) := by decide +kernel
theorem dX12_doPlace_95 : decode cX12_doPlace 95 = .ok (.iload 4, 2) := by decide +kernel
theorem dX12_doPlace_97 : decode cX12_doPlace 97 = .ok (.imul, 1) := by decide +kernel
theorem dX12_doPlace_98 : decode cX12_doPlace 98 = .ok (.if_icmp .ge 23, 3) := by decide +kernel
theorem dX12_doPlace_101 : decode cX12_doPlace 101 = .ok (.goto 14, 3) := by decide +kernel
theorem dX12_doPlace_104 : decode cX12_doPlace 104 = .ok (.aload_n 0, 1) := by decide +kernel
theorem dX12_doPlace_105 : decode cX12_doPlace 105 = .ok (.iload_n 1, 1) := by decide +kernel
theorem dX12_doPlace_106 : decode cX12_doPlace 106 = .ok (.iconst 1, 1) := by decide +kernel
theorem dX12_doPlace_107 : decode cX12_doPlace 107 = .ok (.invokevirtual 94, 3) := by decide +kernel
theorem dX12_doPlace_110 : decode cX12_doPlace 110 = .ok (.iload 4, 2) := by decide +kernel
theorem dX12_doPlace_112 : decode cX12_doPlace 112 = .ok (.if_icmp .ge 9, 3) := by decide +kernel
theorem dX12_doPlace_115 : decode cX12_doPlace 115 = .ok (.aload_n 0, 1) := by decide +kernel
theorem dX12_doPlace_116 : decode cX12_doPlace 116 = .ok (.iconst 4, 1) := by decide +kernel
theorem dX12_doPlace_117 : decode cX12_doPlace 117 = .ok (.invokevirtual 90, 3) := by decide +kernel
theorem dX12_doPlace_120 : decode cX12_doPlace 120 = .ok (.ireturn, 1) := by decide +kernel
theorem dX12_doPlace_121 : decode cX12_doPlace 121 = .ok (.aload_n 0, 1) := by decide +kernel
theorem dX12_doPlace_122 : decode cX12_doPlace 122 = .ok (.getfield 9, 3) := by decide +kernel
theorem dX12_doPlace_125 : decode cX12_doPlace 125 = .ok (.iconst 2, 1) := by decide +kernel
theorem dX12_doPlace_126 : decode cX12_doPlace 126 = .ok (.iaload, 1) := by decide +kernel
theorem dX12_doPlace_127 : decode cX12_doPlace 127 = .ok (.istore 6, 2) := by decide +kernel
theorem dX12_doPlace_129 : decode cX12_doPlace 129 = .ok (.aload_n 0, 1) := by decide +kernel
theorem dX12_doPlace_130 : decode cX12_doPlace 130 = .ok (.getfield 9, 3) := by decide +kernel
theorem dX12_doPlace_133 : decode cX12_doPlace 133 = .ok (.iconst 2, 1) := by decide +kernel
theorem dX12_doPlace_134 : decode cX12_doPlace 134 = .ok (.dup2, 1) := by decide +kernel
theorem dX12_doPlace_135 : decode cX12_doPlace 135 = .ok (.iaload, 1) := by decide +kernel
theorem dX12_doPlace_136 : decode cX12_doPlace 136 = .ok (.iconst 1, 1) := by decide +kernel
theorem dX12_doPlace_137 : decode cX12_doPlace 137 = .ok (.iadd, 1) := by decide +kernel
theorem dX12_doPlace_138 : decode cX12_doPlace 138 = .ok (.iastore, 1) := by decide +kernel
theorem dX12_doPlace_139 : decode cX12_doPlace 139 = .ok (.aload_n 0, 1) := by decide +kernel
theorem dX12_doPlace_140 : decode cX12_doPlace 140 = .ok (.getfield 9, 3) := by decide +kernel
theorem dX12_doPlace_143 : decode cX12_doPlace 143 = .ok (.iconst 4, 1) := by decide +kernel
theorem dX12_doPlace_144 : decode cX12_doPlace 144 = .ok (.iaload, 1) := by decide +kernel
theorem dX12_doPlace_145 : decode cX12_doPlace 145 = .ok (.iconst 1, 1) := by decide +kernel
theorem dX12_doPlace_146 : decode cX12_doPlace 146 = .ok (.if_icmp .ne 8, 3) := by decide +kernel
theorem dX12_doPlace_149 : decode cX12_doPlace 149 = .ok (.iload 4, 2) := by decide +kernel
theorem dX12_doPlace_151 : decode cX12_doPlace 151 = .ok (.goto 12, 3) := by decide +kernel
theorem dX12_doPlace_154 : decode cX12_doPlace 154 = .ok (.aload_n 0, 1) := by decide +kernel
theorem dX12_doPlace_155 : decode cX12_doPlace 155 = .ok (.iload_n 1, 1) := by decide +kernel
theorem dX12_doPlace_156 : decode cX12_doPlace 156 = .ok (.iload_n 2, 1) := by decide +kernel
theorem dX12_doPlace_157 : decode cX12_doPlace 157 = .ok (.iload_n 3, 1) := by decide +kernel
theorem dX12_doPlace_158 : decode cX12_doPlace 158 = .ok (.iload 4, 2) := by decide +kernel
theorem dX12_doPlace_160 : decode cX12_doPlace 160 = .ok (.invokevirtual 97, 3) := by decide +kernel
theorem dX12_doPlace_163 : decode cX12_doPlace 163 = .ok (.istore 7, 2) := by decide +kernel
theorem dX12_doPlace_165 : decode cX12_doPlace 165 = .ok (.iload 5, 2) := by decide +kernel
theorem dX12_doPlace_167 : decode cX12_doPlace 167 = .ok (.iconst (-1), 1) := by decide +kernel
theorem dX12_doPlace_168 : decode cX12_doPlace 168 = .ok (.if_icmp .ne 9, 3) := by decide +kernel
theorem dX12_doPlace_171 : decode cX12_doPlace 171 = .ok (.iload 4, 2) := by decide +kernel
theorem dX12_doPlace_173 : decode cX12_doPlace 173 = .ok (.iload 7, 2) := by decide +kernel
theorem dX12_doPlace_175 : decode cX12_doPlace 175 = .ok (.isub, 1) := by decide +kernel
theorem dX12_doPlace_176 : decode cX12_doPlace 176 = .ok (.ireturn, 1) := by decide +kernel
theorem dX12_doPlace_177 : decode cX12_doPlace 177 = .ok (.iload 7, 2) := by decide +kernel
theorem dX12_doPlace_179 : decode cX12_doPlace 179 = .ok (.ifCond .le 96, 3) := by decide +kernel
theorem dX12_doPlace_182 : decode cX12_doPlace 182 = .ok (.bipush 21, 2) := by decide +kernel
theorem dX12_doPlace_184 : decode cX12_doPlace 184 = .ok (.bipush 6, 2) := by decide +kernel
theorem dX12_doPlace_186 : decode cX12_doPlace 186 = .ok (.aload_n 0, 1) := by decide +kernel
theorem dX12_doPlace_187 : decode cX12_doPlace 187 = .ok (.getfield 9, 3) := by decide +kernel
theorem dX12_doPlace_190 : decode cX12_doPlace 190 = .ok (.iconst 1, 1) := by decide +kernel
theorem dX12_doPlace_191 : decode cX12_doPlace 191 = .ok (.iaload, 1) := by decide +kernel
theorem dX12_doPlace_192 : decode cX12_doPlace 192 = .ok (.imul, 1) := by decide +kernel
theorem dX12_doPlace_193 : decode cX12_doPlace 193 = .ok (.iadd, 1) := by decide +kernel
theorem dX12_doPlace_194 : decode cX12_doPlace 194 = .ok (.istore 8, 2) := by decide +kernel
theorem dX12_doPlace_196 : decode cX12_doPlace 196 = .ok (.aload_n 0, 1) := by decide +kernel
theorem dX12_doPlace_197 : decode cX12_doPlace 197 = .ok (.getfield 9, 3) := by decide +kernel
theorem dX12_doPlace_200 : decode cX12_doPlace 200 = .ok (.iload 8, 2) := by decide +kernel
theorem dX12_doPlace_202 : decode cX12_doPlace 202 = .ok (.iload 6, 2) := by decide +kernel
theorem dX12_doPlace_204 : decode cX12_doPlace 204 = .ok (.iastore, 1) := by decide +kernel
theorem dX12_doPlace_205 : decode cX12_doPlace 205 = .ok (.aload_n 0, 1) := by decide +kernel
theorem dX12_doPlace_206 : decode cX12_doPlace 206 = .ok (.getfield 9, 3) := by decide +kernel
theorem dX12_doPlace_209 : decode cX12_doPlace 209 = .ok (.iload 8, 2) := by decide +kernel
theorem dX12_doPlace_211 : decode cX12_doPlace 211 = .ok (.iconst 1, 1) := by decide +kernel
theorem dX12_doPlace_212 : decode cX12_doPlace 212 = .ok (.iadd, 1) := by decide +kernel
theorem dX12_doPlace_213 : decode cX12_doPlace 213 = .ok (.iload_n 1, 1) := by decide +kernel
theorem dX12_doPlace_214 : decode cX12_doPlace 214 = .ok (.iastore, 1) := by decide +kernel
theorem dX12_doPlace_215 : decode cX12_doPlace 215 = .ok (.aload_n 0, 1) := by decide +kernel
theorem dX12_doPlace_216 : decode cX12_doPlace 216 = .ok (.getfield 9, 3) := by decide +kernel
theorem dX12_doPlace_219 : decode cX12_doPlace 219 = .ok (.iload 8, 2) := by decide +kernel
theorem dX12_doPlace_221 : decode cX12_doPlace 221 = .ok (.iconst 2, 1) := by decide +kernel
theorem dX12_doPlace_222 : decode cX12_doPlace 222 = .ok (.iadd, 1) := by decide +kernel
theorem dX12_doPlace_223 : decode cX12_doPlace 223 = .ok (.iload_n 2, 1) := by decide +kernel
theorem dX12_doPlace_224 : decode cX12_doPlace 224 = .ok (.ifCond .eq 7, 3) := by decide +kernel
theorem dX12_doPlace_227 : decode cX12_doPlace 227 = .ok (.iconst 1, 1) := by decide +kernel
theorem dX12_doPlace_228 : decode cX12_doPlace 228 = .ok (.goto 4, 3) := by decide +kernel
theorem dX12_doPlace_231 : decode cX12_doPlace 231 = .ok (.iconst 0, 1) := by decide +kernel
theorem dX12_doPlace_232 : decode cX12_doPlace 232 = .ok (.iastore, 1) := by decide +kernel
theorem dX12_doPlace_233 : decode cX12_doPlace 233 = .ok (.aload_n 0, 1) := by decide +kernel
theorem dX12_doPlace_234 : decode cX12_doPlace 234 = .ok (.getfield 9, 3) := by decide +kernel
theorem dX12_doPlace_237 : decode cX12_doPlace 237 = .ok (.iload 8, 2) := by decide +kernel
theorem dX12_doPlace_239 : decode cX12_doPlace 239 = .ok (.iconst 3, 1) := by decide +kernel
theorem dX12_doPlace_240 : decode cX12_doPlace 240 = .ok (.iadd, 1) := by decide +kernel
theorem dX12_doPlace_241 : decode cX12_doPlace 241 = .ok (.iload_n 3, 1) := by decide +kernel
theorem dX12_doPlace_242 : decode cX12_doPlace 242 = .ok (.iastore, 1) := by decide +kernel
theorem dX12_doPlace_243 : decode cX12_doPlace 243 = .ok (.aload_n 0, 1) := by decide +kernel
theorem dX12_doPlace_244 : decode cX12_doPlace 244 = .ok (.getfield 9, 3) := by decide +kernel
theorem dX12_doPlace_247 : decode cX12_doPlace 247 = .ok (.iload 8, 2) := by decide +kernel
theorem dX12_doPlace_249 : decode cX12_doPlace 249 = .ok (.iconst 4, 1) := by decide +kernel
theorem dX12_doPlace_250 : decode cX12_doPlace 250 = .ok (.iadd, 1) := by decide +kernel
theorem dX12_doPlace_251 : decode cX12_doPlace 251 = .ok (.iload 7, 2) := by decide +kernel
theorem dX12_doPlace_253 : decode cX12_doPlace 253 = .ok (.iastore, 1) := by decide +kernel
theorem dX12_doPlace_254 : decode cX12_doPlace 254 = .ok (.aload_n 0, 1) := by decide +kernel
theorem dX12_doPlace_255 : decode cX12_doPlace 255 = .ok (.getfield 9, 3) := by decide +kernel
theorem dX12_doPlace_258 : decode cX12_doPlace 258 = .ok (.iload 8, 2) := by decide +kernel
theorem dX12_doPlace_260 : decode cX12_doPlace 260 = .ok (.iconst 5, 1) := by decide +kernel
theorem dX12_doPlace_261 : decode cX12_doPlace 261 = .ok (.iadd, 1) := by decide +kernel
theorem dX12_doPlace_262 : decode cX12_doPlace 262 = .ok (.iload 5, 2) := by decide +kernel
theorem dX12_doPlace_264 : decode cX12_doPlace 264 = .ok (.iastore, 1) := by decide +kernel
theorem dX12_doPlace_265 : decode cX12_doPlace 265 = .ok (.aload_n 0, 1) := by decide +kernel
theorem dX12_doPlace_266 : decode cX12_doPlace 266 = .ok (.getfield 9, 3) := by decide +kernel
theorem dX12_doPlace_269 : decode cX12_doPlace 269 = .ok (.iconst 1, 1) := by decide +kernel
theorem dX12_doPlace_270 : decode cX12_doPlace 270 = .ok (.dup2, 1) := by decide +kernel
theorem dX12_doPlace_271 : decode cX12_doPlace 271 = .ok (.iaload, 1) := by decide +kernel
theorem dX12_doPlace_272 : decode cX12_doPlace 272 = .ok (.iconst 1, 1) := by decide +kernel
theorem dX12_doPlace_273 : decode cX12_doPlace 273 = .ok (.iadd, 1) := by decide +kernel
theorem dX12_doPlace_274 : decode cX12_doPlace 274 = .ok (.iastore, 1) := by decide +kernel
theorem dX12_doPlace_275 : decode cX12_doPlace 275 = .ok (.iload 6, 2) := by decide +kernel
theorem dX12_doPlace_277 : decode cX12_doPlace 277 = .ok (.ireturn, 1) := by decide +kernel
theorem dX12_doAddStall_0 : decode cX12_doAddStall 0 = .ok (.aload_n 0, 1) := by decide +kernel
theorem dX12_doAddStall_1 : decode cX12_doAddStall 1 = .ok (.getfield 9, 3) := by decide +kernel
theorem dX12_doAddStall_4 : decode cX12_doAddStall 4 = .ok (.iconst 0, 1) := by decide +kernel
theorem dX12_doAddStall_5 : decode cX12_doAddStall 5 = .ok (.iaload, 1) := by decide +kernel
theorem dX12_doAddStall_6 : decode cX12_doAddStall 6 = .ok (.istore_n 3, 1) := by decide +kernel
theorem dX12_doAddStall_7 : decode cX12_doAddStall 7 = .ok (.iload_n 1, 1) := by decide +kernel
theorem dX12_doAddStall_8 : decode cX12_doAddStall 8 = .ok (.iconst 0, 1) := by decide +kernel
theorem dX12_doAddStall_9 : decode cX12_doAddStall 9 = .ok (.sipush 9999, 3) := by decide +kernel
theorem dX12_doAddStall_12 : decode cX12_doAddStall 12 = .ok (.invokestatic 51, 3) := by decide +kernel
theorem dX12_doAddStall_15 : decode cX12_doAddStall 15 = .ok (.ifCond .eq 14, 3) := by decide +kernel
theorem dX12_doAddStall_18 : decode cX12_doAddStall 18 = .ok (.iload_n 2, 1) := by decide +kernel
theorem dX12_doAddStall_19 : decode cX12_doAddStall 19 = .ok (.iconst 0, 1) := by decide +kernel
theorem dX12_doAddStall_20 : decode cX12_doAddStall 20 = .ok (.sipush 999, 3) := by decide +kernel
theorem dX12_doAddStall_23 : decode cX12_doAddStall 23 = .ok (.invokestatic 51, 3) := by decide +kernel
theorem dX12_doAddStall_26 : decode cX12_doAddStall 26 = .ok (.ifCond .ne 9, 3) := by decide +kernel
theorem dX12_doAddStall_29 : decode cX12_doAddStall 29 = .ok (.aload_n 0, 1) := by decide +kernel
theorem dX12_doAddStall_30 : decode cX12_doAddStall 30 = .ok (.iconst 1, 1) := by decide +kernel
theorem dX12_doAddStall_31 : decode cX12_doAddStall 31 = .ok (.invokevirtual 90, 3) := by decide +kernel
theorem dX12_doAddStall_34 : decode cX12_doAddStall 34 = .ok (.ireturn, 1) := by decide +kernel
theorem dX12_doAddStall_35 : decode cX12_doAddStall 35 = .ok (.iload_n 3, 1) := by decide +kernel
theorem dX12_doAddStall_36 : decode cX12_doAddStall 36 = .ok (.bipush 6, 2) := by decide +kernel
theorem dX12_doAddStall_38 : decode cX12_doAddStall 38 = .ok (.if_icmp .ne 9, 3) := by decide +kernel
theorem dX12_doAddStall_41 : decode cX12_doAddStall 41 = .ok (.aload_n 0, 1) := by decide +kernel
theorem dX12_doAddStall_42 : decode cX12_doAddStall 42 = .ok (.iconst 2, 1) := by decide +kernel
theorem dX12_doAddStall_43 : decode cX12_doAddStall 43 = .ok (.invokevirtual 90, 3) := by decide +kernel
theorem dX12_doAddStall_46 : decode cX12_doAddStall 46 = .ok (.ireturn, 1) := by decide +kernel
theorem dX12_doAddStall_47 : decode cX12_doAddStall 47 = .ok (.aload_n 0, 1) := by decide +kernel
theorem dX12_doAddStall_48 : decode cX12_doAddStall 48 = .ok (.getfield 9, 3) := by decide +kernel
theorem dX12_doAddStall_51 : decode cX12_doAddStall 51 = .ok (.bipush 9, 2) := by decide +kernel
theorem dX12_doAddStall_53 : decode cX12_doAddStall 53 = .ok (.iconst 2, 1) := by decide +kernel
theorem dX12_doAddStall_54 : decode cX12_doAddStall 54 = .ok (.iload_n 3, 1) := by decide +kernel
theorem dX12_doAddStall_55 : decode cX12_doAddStall 55 = .ok (.imul, 1) := by decide +kernel
theorem dX12_doAddStall_56 : decode cX12_doAddStall 56 = .ok (.iadd, 1) := by decide +kernel
theorem dX12_doAddStall_57 : decode cX12_doAddStall 57 = .ok (.iload_n 1, 1) := by decide +kernel
theorem dX12_doAddStall_58 : decode cX12_doAddStall 58 = .ok (.iastore, 1) := by decide +kernel
theorem dX12_doAddStall_59 : decode cX12_doAddStall 59 = .ok (.aload_n 0, 1) := by decide +kernel
theorem dX12_doAddStall_60 : decode cX12_doAddStall 60 = .ok (.getfield 9, 3) := by decide +kernel
theorem dX12_doAddStall_63 : decode cX12_doAddStall 63 = .ok (.bipush 9, 2) := by decide +kernel
theorem dX12_doAddStall_65 : decode cX12_doAddStall 65 = .ok (.iconst 2, 1) := by decide +kernel
theorem dX12_doAddStall_66 : decode cX12_doAddStall 66 = .ok (.iload_n 3, 1) := by decide +kernel
theorem dX12_doAddStall_67 : decode cX12_doAddStall 67 = .ok (.imul, 1) := by decide +kernel
theorem dX12_doAddStall_68 : decode cX12_doAddStall 68 = .ok (.iadd, 1) := by decide +kernel
theorem dX12_doAddStall_69 : decode cX12_doAddStall 69 = .ok (.iconst 1, 1) := by decide +kernel
theorem dX12_doAddStall_70 : decode cX12_doAddStall 70 = .ok (.iadd, 1) := by decide +kernel
theorem dX12_doAddStall_71 : decode cX12_doAddStall 71 = .ok (.iload_n 2, 1) := by decide +kernel
theorem dX12_doAddStall_72 : decode cX12_doAddStall 72 = .ok (.iastore, 1) := by decide +kernel
theorem dX12_doAddStall_73 : decode cX12_doAddStall 73 = .ok (.aload_n 0, 1) := by decide +kernel
theorem dX12_doAddStall_74 : decode cX12_doAddStall 74 = .ok (.getfield 9, 3) := by decide +kernel
theorem dX12_doAddStall_77 : decode cX12_doAddStall 77 = .ok (.iconst 0, 1) := by decide +kernel
theorem dX12_doAddStall_78 : decode cX12_doAddStall 78 = .ok (.dup2, 1) := by decide +kernel
theorem dX12_doAddStall_79 : decode cX12_doAddStall 79 = .ok (.iaload, 1) := by decide +kernel
theorem dX12_doAddStall_80 : decode cX12_doAddStall 80 = .ok (.iconst 1, 1) := by decide +kernel
theorem dX12_doAddStall_81 : decode cX12_doAddStall 81 = .ok (.iadd, 1) := by decide +kernel
theorem dX12_doAddStall_82 : decode cX12_doAddStall 82 = .ok (.iastore, 1) := by decide +kernel
theorem dX12_doAddStall_83 : decode cX12_doAddStall 83 = .ok (.iload_n 3, 1) := by decide +kernel
theorem dX12_doAddStall_84 : decode cX12_doAddStall 84 = .ok (.ireturn, 1) := by decide +kernel
theorem dX12_addStall_0 : decode cX12_addStall 0 = .ok (.aload_n 0, 1) := by decide +kernel
theorem dX12_addStall_1 : decode cX12_addStall 1 = .ok (.invokevirtual 101, 3) := by decide +kernel
theorem dX12_addStall_4 : decode cX12_addStall 4 = .ok (.aload_n 0, 1) := by decide +kernel
theorem dX12_addStall_5 : decode cX12_addStall 5 = .ok (.aload_n 0, 1) := by decide +kernel
theorem dX12_addStall_6 : decode cX12_addStall 6 = .ok (.iload_n 1, 1) := by decide +kernel
theorem dX12_addStall_7 : decode cX12_addStall 7 = .ok (.iload_n 2, 1) := by decide +kernel
theorem dX12_addStall_8 : decode cX12_addStall 8 = .ok (.invokevirtual 104, 3) := by decide +kernel
theorem dX12_addStall_11 : decode cX12_addStall 11 = .ok (.invokevirtual 107, 3) := by decide +kernel
theorem dX12_addStall_14 : decode cX12_addStall 14 = .ok (.ireturn, 1) := by decide +kernel
theorem dX12_placeBuy_0 : decode cX12_placeBuy 0 = .ok (.aload_n 0, 1) := by decide +kernel
theorem dX12_placeBuy_1 : decode cX12_placeBuy 1 = .ok (.invokevirtual 101, 3) := by decide +kernel
theorem dX12_placeBuy_4 : decode cX12_placeBuy 4 = .ok (.aload_n 0, 1) := by decide +kernel
theorem dX12_placeBuy_5 : decode cX12_placeBuy 5 = .ok (.aload_n 0, 1) := by decide +kernel
theorem dX12_placeBuy_6 : decode cX12_placeBuy 6 = .ok (.iload_n 1, 1) := by decide +kernel
theorem dX12_placeBuy_7 : decode cX12_placeBuy 7 = .ok (.iconst 1, 1) := by decide +kernel
theorem dX12_placeBuy_8 : decode cX12_placeBuy 8 = .ok (.iload_n 2, 1) := by decide +kernel
theorem dX12_placeBuy_9 : decode cX12_placeBuy 9 = .ok (.iload_n 3, 1) := by decide +kernel
theorem dX12_placeBuy_10 : decode cX12_placeBuy 10 = .ok (.iconst 0, 1) := by decide +kernel
theorem dX12_placeBuy_11 : decode cX12_placeBuy 11 = .ok (.invokevirtual 110, 3) := by decide +kernel
theorem dX12_placeBuy_14 : decode cX12_placeBuy 14 = .ok (.invokevirtual 107, 3) := by decide +kernel
theorem dX12_placeBuy_17 : decode cX12_placeBuy 17 = .ok (.ireturn, 1) := by decide +kernel
theorem dX12_placeSell_0 : decode cX12_placeSell 0 = .ok (.aload_n 0, 1) := by decide +kernel
theorem dX12_placeSell_1 : decode cX12_placeSell 1 = .ok (.invokevirtual 101, 3) := by decide +kernel
theorem dX12_placeSell_4 : decode cX12_placeSell 4 = .ok (.aload_n 0, 1) := by decide +kernel
theorem dX12_placeSell_5 : decode cX12_placeSell 5 = .ok (.aload_n 0, 1) := by decide +kernel
theorem dX12_placeSell_6 : decode cX12_placeSell 6 = .ok (.iload_n 1, 1) := by decide +kernel
theorem dX12_placeSell_7 : decode cX12_placeSell 7 = .ok (.iconst 0, 1) := by decide +kernel
theorem dX12_placeSell_8 : decode cX12_placeSell 8 = .ok (.iload_n 2, 1) := by decide +kernel
theorem dX12_placeSell_9 : decode cX12_placeSell 9 = .ok (.iload_n 3, 1) := by decide +kernel
theorem dX12_placeSell_10 : decode cX12_placeSell 10 = .ok (.iconst 0, 1) := by decide +kernel
theorem dX12_placeSell_11 : decode cX12_placeSell 11 = .ok (.invokevirtual 110, 3) := by decide +kernel
theorem dX12_placeSell_14 : decode cX12_placeSell 14 = .ok (.invokevirtual 107, 3) := by decide +kernel
theorem dX12_placeSell_17 : decode cX12_placeSell 17 = .ok (.ireturn, 1) := by decide +kernel
theorem dX12_minutesFor_0 : decode cX12_minutesFor 0 = .ok (.iload_n 0, 1) := by decide +kernel
theorem dX12_minutesFor_1 : decode cX12_minutesFor 1 = .ok (.iconst 1, 1) := by decide +kernel
theorem dX12_minutesFor_2 : decode cX12_minutesFor 2 = .ok (.bipush 60, 2) := by decide +kernel
theorem dX12_minutesFor_4 : decode cX12_minutesFor 4 = .ok (.invokestatic 51, 3) := by decide +kernel
theorem dX12_minutesFor_7 : decode cX12_minutesFor 7 = .ok (.ifCond .eq 7, 3) := by decide +kernel
theorem dX12_minutesFor_10 : decode cX12_minutesFor 10 = .ok (.iload_n 0, 1) := by decide +kernel
theorem dX12_minutesFor_11 : decode cX12_minutesFor 11 = .ok (.goto 5, 3) := by decide +kernel
theorem dX12_minutesFor_14 : decode cX12_minutesFor 14 = .ok (.bipush 61, 2) := by decide +kernel
theorem dX12_minutesFor_16 : decode cX12_minutesFor 16 = .ok (.ireturn, 1) := by decide +kernel
theorem dX12_placeBuyFor_0 : decode cX12_placeBuyFor 0 = .ok (.aload_n 0, 1) := by decide +kernel
theorem dX12_placeBuyFor_1 : decode cX12_placeBuyFor 1 = .ok (.invokevirtual 101, 3) := by decide +kernel
theorem dX12_placeBuyFor_4 : decode cX12_placeBuyFor 4 = .ok (.aload_n 0, 1) := by decide +kernel
theorem dX12_placeBuyFor_5 : decode cX12_placeBuyFor 5 = .ok (.aload_n 0, 1) := by decide +kernel
theorem dX12_placeBuyFor_6 : decode cX12_placeBuyFor 6 = .ok (.iload_n 1, 1) := by decide +kernel
theorem dX12_placeBuyFor_7 : decode cX12_placeBuyFor 7 = .ok (.iconst 1, 1) := by decide +kernel
theorem dX12_placeBuyFor_8 : decode cX12_placeBuyFor 8 = .ok (.iload_n 2, 1) := by decide +kernel
theorem dX12_placeBuyFor_9 : decode cX12_placeBuyFor 9 = .ok (.iload_n 3, 1) := by decide +kernel
theorem dX12_placeBuyFor_10 : decode cX12_placeBuyFor 10 = .ok (.iload 4, 2) := by decide +kernel
theorem dX12_placeBuyFor_12 : decode cX12_placeBuyFor 12 = .ok (.invokestatic 114, 3) := by decide +kernel
theorem dX12_placeBuyFor_15 : decode cX12_placeBuyFor 15 = .ok (.invokevirtual 110, 3) := by decide +kernel
theorem dX12_placeBuyFor_18 : decode cX12_placeBuyFor 18 = .ok (.invokevirtual 107, 3) := by decide +kernel
theorem dX12_placeBuyFor_21 : decode cX12_placeBuyFor 21 = .ok (.ireturn, 1) := by decide +kernel
theorem dX12_placeSellFor_0 : decode cX12_placeSellFor 0 = .ok (.aload_n 0, 1) := by decide +kernel
theorem dX12_placeSellFor_1 : decode cX12_placeSellFor 1 = .ok (.invokevirtual 101, 3) := by decide +kernel
theorem dX12_placeSellFor_4 : decode cX12_placeSellFor 4 = .ok (.aload_n 0, 1) := by decide +kernel
theorem dX12_placeSellFor_5 : decode cX12_placeSellFor 5 = .ok (.aload_n 0, 1) := by decide +kernel
theorem dX12_placeSellFor_6 : decode cX12_placeSellFor 6 = .ok (.iload_n 1, 1) := by decide +kernel
theorem dX12_placeSellFor_7 : decode cX12_placeSellFor 7 = .ok (.iconst 0, 1) := by decide +kernel
theorem dX12_placeSellFor_8 : decode cX12_placeSellFor 8 = .ok (.iload_n 2, 1) := by decide +kernel
theorem dX12_placeSellFor_9 : decode cX12_placeSellFor 9 = .ok (.iload_n 3, 1) := by decide +kernel
theorem dX12_placeSellFor_10 : decode cX12_placeSellFor 10 = .ok (.iload 4, 2) := by decide +kernel
theorem dX12_placeSellFor_12 : decode cX12_placeSellFor 12 = .ok (.invokestatic 114, 3) := by decide +kernel
theorem dX12_placeSellFor_15 : decode cX12_placeSellFor 15 = .ok (.invokevirtual 110, 3) := by decide +kernel
theorem dX12_placeSellFor_18 : decode cX12_placeSellFor 18 = .ok (.invokevirtual 107, 3) := by decide +kernel
theorem dX12_placeSellFor_21 : decode cX12_placeSellFor 21 = .ok (.ireturn, 1) := by decide +kernel
theorem dX12_takeBuy_0 : decode cX12_takeBuy 0 = .ok (.aload_n 0, 1) := by decide +kernel
theorem dX12_takeBuy_1 : decode cX12_takeBuy 1 = .ok (.invokevirtual 101, 3) := by decide +kernel
theorem dX12_takeBuy_4 : decode cX12_takeBuy 4 = .ok (.aload_n 0, 1) := by decide +kernel
theorem dX12_takeBuy_5 : decode cX12_takeBuy 5 = .ok (.aload_n 0, 1) := by decide +kernel
theorem dX12_takeBuy_6 : decode cX12_takeBuy 6 = .ok (.iload_n 1, 1) := by decide +kernel
theorem dX12_takeBuy_7 : decode cX12_takeBuy 7 = .ok (.iconst 1, 1) := by decide +kernel
theorem dX12_takeBuy_8 : decode cX12_takeBuy 8 = .ok (.iload_n 2, 1) := by decide +kernel
theorem dX12_takeBuy_9 : decode cX12_takeBuy 9 = .ok (.iload_n 3, 1) := by decide +kernel
theorem dX12_takeBuy_10 : decode cX12_takeBuy 10 = .ok (.iconst (-1), 1) := by decide +kernel
theorem dX12_takeBuy_11 : decode cX12_takeBuy 11 = .ok (.invokevirtual 110, 3) := by decide +kernel
theorem dX12_takeBuy_14 : decode cX12_takeBuy 14 = .ok (.invokevirtual 107, 3) := by decide +kernel
theorem dX12_takeBuy_17 : decode cX12_takeBuy 17 = .ok (.ireturn, 1) := by decide +kernel
theorem dX12_takeSell_0 : decode cX12_takeSell 0 = .ok (.aload_n 0, 1) := by decide +kernel
theorem dX12_takeSell_1 : decode cX12_takeSell 1 = .ok (.invokevirtual 101, 3) := by decide +kernel
theorem dX12_takeSell_4 : decode cX12_takeSell 4 = .ok (.aload_n 0, 1) := by decide +kernel
theorem dX12_takeSell_5 : decode cX12_takeSell 5 = .ok (.aload_n 0, 1) := by decide +kernel
theorem dX12_takeSell_6 : decode cX12_takeSell 6 = .ok (.iload_n 1, 1) := by decide +kernel
theorem dX12_takeSell_7 : decode cX12_takeSell 7 = .ok (.iconst 0, 1) := by decide +kernel
theorem dX12_takeSell_8 : decode cX12_takeSell 8 = .ok (.iload_n 2, 1) := by decide +kernel
theorem dX12_takeSell_9 : decode cX12_takeSell 9 = .ok (.iload_n 3, 1) := by decide +kernel
theorem dX12_takeSell_10 : decode cX12_takeSell 10 = .ok (.iconst (-1), 1) := by decide +kernel
theorem dX12_takeSell_11 : decode cX12_takeSell 11 = .ok (.invokevirtual 110, 3) := by decide +kernel
theorem dX12_takeSell_14 : decode cX12_takeSell 14 = .ok (.invokevirtual 107, 3) := by decide +kernel
theorem dX12_takeSell_17 : decode cX12_takeSell 17 = .ok (.ireturn, 1) := by decide +kernel
theorem dX12_doCancel_0 : decode cX12_doCancel 0 = .ok (.aload_n 0, 1) := by decide +kernel
theorem dX12_doCancel_1 : decode cX12_doCancel 1 = .ok (.iload_n 1, 1) := by decide +kernel
theorem dX12_doCancel_2 : decode cX12_doCancel 2 = .ok (.invokevirtual 117, 3) := by decide +kernel
theorem dX12_doCancel_5 : decode cX12_doCancel 5 = .ok (.istore_n 2, 1) := by decide +kernel
theorem dX12_doCancel_6 : decode cX12_doCancel 6 = .ok (.iload_n 2, 1) := by decide +kernel
theorem dX12_doCancel_7 : decode cX12_doCancel 7 = .ok (.ifCond .ge 9, 3) := by decide +kernel
theorem dX12_doCancel_10 : decode cX12_doCancel 10 = .ok (.aload_n 0, 1) := by decide +kernel
theorem dX12_doCancel_11 : decode cX12_doCancel 11 = .ok (.iconst 1, 1) := by decide +kernel
theorem dX12_doCancel_12 : decode cX12_doCancel 12 = .ok (.invokevirtual 90, 3) := by decide +kernel
theorem dX12_doCancel_15 : decode cX12_doCancel 15 = .ok (.ireturn, 1) := by decide +kernel
theorem dX12_doCancel_16 : decode cX12_doCancel 16 = .ok (.aload_n 0, 1) := by decide +kernel
theorem dX12_doCancel_17 : decode cX12_doCancel 17 = .ok (.iload_n 2, 1) := by decide +kernel
theorem dX12_doCancel_18 : decode cX12_doCancel 18 = .ok (.iconst 4, 1) := by decide +kernel
theorem dX12_doCancel_19 : decode cX12_doCancel 19 = .ok (.invokevirtual 55, 3) := by decide +kernel
theorem dX12_doCancel_22 : decode cX12_doCancel 22 = .ok (.istore_n 3, 1) := by decide +kernel
theorem dX12_doCancel_23 : decode cX12_doCancel 23 = .ok (.aload_n 0, 1) := by decide +kernel
theorem dX12_doCancel_24 : decode cX12_doCancel 24 = .ok (.iload_n 2, 1) := by decide +kernel
theorem dX12_doCancel_25 : decode cX12_doCancel 25 = .ok (.invokevirtual 66, 3) := by decide +kernel
theorem dX12_doCancel_28 : decode cX12_doCancel 28 = .ok (.iload_n 3, 1) := by decide +kernel
theorem dX12_doCancel_29 : decode cX12_doCancel 29 = .ok (.ireturn, 1) := by decide +kernel
theorem dX12_cancel_0 : decode cX12_cancel 0 = .ok (.aload_n 0, 1) := by decide +kernel
theorem dX12_cancel_1 : decode cX12_cancel 1 = .ok (.invokevirtual 101, 3) := by decide +kernel
theorem dX12_cancel_4 : decode cX12_cancel 4 = .ok (.aload_n 0, 1) := by decide +kernel
theorem dX12_cancel_5 : decode cX12_cancel 5 = .ok (.aload_n 0, 1) := by decide +kernel
theorem dX12_cancel_6 : decode cX12_cancel 6 = .ok (.iload_n 1, 1) := by decide +kernel
theorem dX12_cancel_7 : decode cX12_cancel 7 = .ok (.invokevirtual 120, 3) := by decide +kernel
theorem dX12_cancel_10 : decode cX12_cancel 10 = .ok (.invokevirtual 107, 3) := by decide +kernel
theorem dX12_cancel_13 : decode cX12_cancel 13 = .ok (.ireturn, 1) := by decide +kernel
theorem dX12_doPass_0 : decode cX12_doPass 0 = .ok (.iload_n 1, 1) := by decide +kernel
theorem dX12_doPass_1 : decode cX12_doPass 1 = .ok (.iconst 1, 1) := by decide +kernel
theorem dX12_doPass_2 : decode cX12_doPass 2 = .ok (.bipush 60, 2) := by decide +kernel
theorem dX12_doPass_4 : decode cX12_doPass 4 = .ok (.invokestatic 51, 3) := by decide +kernel
theorem dX12_doPass_7 : decode cX12_doPass 7 = .ok (.ifCond .ne 9, 3) := by decide +kernel
theorem dX12_doPass_10 : decode cX12_doPass 10 = .ok (.aload_n 0, 1) := by decide +kernel
theorem dX12_doPass_11 : decode cX12_doPass 11 = .ok (.iconst 1, 1) := by decide +kernel
theorem dX12_doPass_12 : decode cX12_doPass 12 = .ok (.invokevirtual 90, 3) := by decide +kernel
theorem dX12_doPass_15 : decode cX12_doPass 15 = .ok (.ireturn, 1) := by decide +kernel
theorem dX12_doPass_16 : decode cX12_doPass 16 = .ok (.iconst 0, 1) := by decide +kernel
theorem dX12_doPass_17 : decode cX12_doPass 17 = .ok (.istore_n 2, 1) := by decide +kernel
theorem dX12_doPass_18 : decode cX12_doPass 18 = .ok (.iconst 0, 1) := by decide +kernel
theorem dX12_doPass_19 : decode cX12_doPass 19 = .ok (.istore_n 3, 1) := by decide +kernel
theorem dX12_doPass_20 : decode cX12_doPass 20 = .ok (.iload_n 3, 1) := by decide +kernel
theorem dX12_doPass_21 : decode cX12_doPass 21 = .ok (.iload_n 1, 1) := by decide +kernel
theorem dX12_doPass_22 : decode cX12_doPass 22 = .ok (.if_icmp .ge 126, 3) := by decide +kernel
theorem dX12_doPass_25 : decode cX12_doPass 25 = .ok (.aload_n 0, 1) := by decide +kernel
theorem dX12_doPass_26 : decode cX12_doPass 26 = .ok (.getfield 9, 3) := by decide +kernel
theorem dX12_doPass_29 : decode cX12_doPass 29 = .ok (.iconst 3, 1) := by decide +kernel
theorem dX12_doPass_30 : decode cX12_doPass 30 = .ok (.dup2, 1) := by decide +kernel
theorem dX12_doPass_31 : decode cX12_doPass 31 = .ok (.iaload, 1) := by decide +kernel
theorem dX12_doPass_32 : decode cX12_doPass 32 = .ok (.iconst 1, 1) := by decide +kernel
theorem dX12_doPass_33 : decode cX12_doPass 33 = .ok (.iadd, 1) := by decide +kernel
theorem dX12_doPass_34 : decode cX12_doPass 34 = .ok (.iastore, 1) := by decide +kernel
theorem dX12_doPass_35 : decode cX12_doPass 35 = .ok (.iconst 0, 1) := by decide +kernel
theorem dX12_doPass_36 : decode cX12_doPass 36 = .ok (.istore 4, 2) := by decide +kernel
theorem dX12_doPass_38 : decode cX12_doPass 38 = .ok (.iload 4, 2) := by decide +kernel
theorem dX12_doPass_40 : decode cX12_doPass 40 = .ok (.aload_n 0, 1) := by decide +kernel
theorem dX12_doPass_41 : decode cX12_doPass 41 = .ok (.getfield 9, 3) := by decide +kernel
theorem dX12_doPass_44 : decode cX12_doPass 44 = .ok (.iconst 1, 1) := by decide +kernel
theorem dX12_doPass_45 : decode cX12_doPass 45 = .ok (.iaload, 1) := by decide +kernel
theorem dX12_doPass_46 : decode cX12_doPass 46 = .ok (.if_icmp .ge 96, 3) := by decide +kernel
theorem dX12_doPass_49 : decode cX12_doPass 49 = .ok (.aload_n 0, 1) := by decide +kernel
theorem dX12_doPass_50 : decode cX12_doPass 50 = .ok (.iload 4, 2) := by decide +kernel
theorem dX12_doPass_52 : decode cX12_doPass 52 = .ok (.iconst 5, 1) := by decide +kernel
theorem dX12_doPass_53 : decode cX12_doPass 53 = .ok (.invokevirtual 55, 3) := by decide +kernel
theorem dX12_doPass_56 : decode cX12_doPass 56 = .ok (.iconst 1, 1) := by decide +kernel
theorem dX12_doPass_57 : decode cX12_doPass 57 = .ok (.if_icmp .ne 7, 3) := by decide +kernel
theorem dX12_doPass_60 : decode cX12_doPass 60 = .ok (.iconst 1, 1) := by decide +kernel
theorem dX12_doPass_61 : decode cX12_doPass 61 = .ok (.goto 4, 3) := by decide +kernel
theorem dX12_doPass_64 : decode cX12_doPass 64 = .ok (.iconst 0, 1) := by decide +kernel
theorem dX12_doPass_65 : decode cX12_doPass 65 = .ok (.istore 5, 2) := by decide +kernel
theorem dX12_doPass_67 : decode cX12_doPass 67 = .ok (.aload_n 0, 1) := by decide +kernel
theorem dX12_doPass_68 : decode cX12_doPass 68 = .ok (.getfield 9, 3) := by decide +kernel
theorem dX12_doPass_71 : decode cX12_doPass 71 = .ok (.bipush 21, 2) := by decide +kernel
theorem dX12_doPass_73 : decode cX12_doPass 73 = .ok (.bipush 6, 2) := by decide +kernel
theorem dX12_doPass_75 : decode cX12_doPass 75 = .ok (.iload 4, 2) := by decide +kernel
theorem dX12_doPass_77 : decode cX12_doPass 77 = .ok (.imul, 1) := by decide +kernel
theorem dX12_doPass_78 : decode cX12_doPass 78 = .ok (.iadd, 1) := by decide +kernel
theorem dX12_doPass_79 : decode cX12_doPass 79 = .ok (.iconst 5, 1) := by decide +kernel
theorem dX12_doPass_80 : decode cX12_doPass 80 = .ok (.iadd, 1) := by decide +kernel
theorem dX12_doPass_81 : decode cX12_doPass 81 = .ok (.dup2, 1) := by decide +kernel
theorem dX12_doPass_82 : decode cX12_doPass 82 = .ok (.iaload, 1) := by decide +kernel
theorem dX12_doPass_83 : decode cX12_doPass 83 = .ok (.aload_n 0, 1) := by decide +kernel
theorem dX12_doPass_84 : decode cX12_doPass 84 = .ok (.iload 4, 2) := by decide +kernel
theorem dX12_doPass_86 : decode cX12_doPass 86 = .ok (.iconst 5, 1) := by decide +kernel
theorem dX12_doPass_87 : decode cX12_doPass 87 = .ok (.invokevirtual 55, 3) := by decide +kernel
theorem dX12_doPass_90 : decode cX12_doPass 90 = .ok (.ifCond .le 7, 3) := by decide +kernel
theorem dX12_doPass_93 : decode cX12_doPass 93 = .ok (.iconst 1, 1) := by decide +kernel
theorem dX12_doPass_94 : decode cX12_doPass 94 = .ok (.goto 4, 3) := by decide +kernel
theorem dX12_doPass_97 : decode cX12_doPass 97 = .ok (.iconst 0, 1) := by decide +kernel
theorem dX12_doPass_98 : decode cX12_doPass 98 = .ok (.isub, 1) := by decide +kernel
theorem dX12_doPass_99 : decode cX12_doPass 99 = .ok (.iastore, 1) := by decide +kernel
theorem dX12_doPass_100 : decode cX12_doPass 100 = .ok (.iload 5, 2) := by decide +kernel
theorem dX12_doPass_102 : decode cX12_doPass 102 = .ok (.ifCond .eq 9, 3) := by decide +kernel
theorem dX12_doPass_105 : decode cX12_doPass 105 = .ok (.aload_n 0, 1) := by decide +kernel
theorem dX12_doPass_106 : decode cX12_doPass 106 = .ok (.iload 4, 2) := by decide +kernel
theorem dX12_doPass_108 : decode cX12_doPass 108 = .ok (.invokevirtual 66, 3) := by decide +kernel
theorem dX12_doPass_111 : decode cX12_doPass 111 = .ok (.iload_n 2, 1) := by decide +kernel
theorem dX12_doPass_112 : decode cX12_doPass 112 = .ok (.iload 5, 2) := by decide +kernel
theorem dX12_doPass_114 : decode cX12_doPass 114 = .ok (.ifCond .eq 7, 3) := by decide +kernel
theorem dX12_doPass_117 : decode cX12_doPass 117 = .ok (.iconst 1, 1) := by decide +kernel
theorem dX12_doPass_118 : decode cX12_doPass 118 = .ok (.goto 4, 3) := by decide +kernel
theorem dX12_doPass_121 : decode cX12_doPass 121 = .ok (.iconst 0, 1) := by decide +kernel
theorem dX12_doPass_122 : decode cX12_doPass 122 = .ok (.iadd, 1) := by decide +kernel
theorem dX12_doPass_123 : decode cX12_doPass 123 = .ok (.istore_n 2, 1) := by decide +kernel
theorem dX12_doPass_124 : decode cX12_doPass 124 = .ok (.iload 4, 2) := by decide +kernel
theorem dX12_doPass_126 : decode cX12_doPass 126 = .ok (.iload 5, 2) := by decide +kernel
theorem dX12_doPass_128 : decode cX12_doPass 128 = .ok (.ifCond .eq 7, 3) := by decide +kernel
theorem dX12_doPass_131 : decode cX12_doPass 131 = .ok (.iconst 0, 1) := by decide +kernel
theorem dX12_doPass_132 : decode cX12_doPass 132 = .ok (.goto 4, 3) := by decide +kernel
theorem dX12_doPass_135 : decode cX12_doPass 135 = .ok (.iconst 1, 1) := by decide +kernel
theorem dX12_doPass_136 : decode cX12_doPass 136 = .ok (.iadd, 1) := by decide +kernel
theorem dX12_doPass_137 : decode cX12_doPass 137 = .ok (.istore 4, 2) := by decide +kernel
theorem dX12_doPass_139 : decode cX12_doPass 139 = .ok (.goto (-101), 3) := by decide +kernel
theorem dX12_doPass_142 : decode cX12_doPass 142 = .ok (.iinc 3 1, 3) := by decide +kernel
theorem dX12_doPass_145 : decode cX12_doPass 145 = .ok (.goto (-125), 3) := by decide +kernel
theorem dX12_doPass_148 : decode cX12_doPass 148 = .ok (.iload_n 2, 1) := by decide +kernel
theorem dX12_doPass_149 : decode cX12_doPass 149 = .ok (.ireturn, 1) := by decide +kernel
theorem dX12_pass_0 : decode cX12_pass 0 = .ok (.aload_n 0, 1) := by decide +kernel
theorem dX12_pass_1 : decode cX12_pass 1 = .ok (.invokevirtual 101, 3) := by decide +kernel
theorem dX12_pass_4 : decode cX12_pass 4 = .ok (.aload_n 0, 1) := by decide +kernel
theorem dX12_pass_5 : decode cX12_pass 5 = .ok (.aload_n 0, 1) := by decide +kernel
theorem dX12_pass_6 : decode cX12_pass 6 = .ok (.iload_n 1, 1) := by decide +kernel
theorem dX12_pass_7 : decode cX12_pass 7 = .ok (.invokevirtual 123, 3) := by decide +kernel
theorem dX12_pass_10 : decode cX12_pass 10 = .ok (.invokevirtual 107, 3) := by decide +kernel
theorem dX12_pass_13 : decode cX12_pass 13 = .ok (.ireturn, 1) := by decide +kernel
theorem dX12_doOpen_0 : decode cX12_doOpen 0 = .ok (.aload_n 0, 1) := by decide +kernel
theorem dX12_doOpen_1 : decode cX12_doOpen 1 = .ok (.getfield 9, 3) := by decide +kernel
theorem dX12_doOpen_4 : decode cX12_doOpen 4 = .ok (.iconst 4, 1) := by decide +kernel
theorem dX12_doOpen_5 : decode cX12_doOpen 5 = .ok (.iaload, 1) := by decide +kernel
theorem dX12_doOpen_6 : decode cX12_doOpen 6 = .ok (.iconst 1, 1) := by decide +kernel
theorem dX12_doOpen_7 : decode cX12_doOpen 7 = .ok (.if_icmp .ne 9, 3) := by decide +kernel
theorem dX12_doOpen_10 : decode cX12_doOpen 10 = .ok (.aload_n 0, 1) := by decide +kernel
theorem dX12_doOpen_11 : decode cX12_doOpen 11 = .ok (.iconst 1, 1) := by decide +kernel
theorem dX12_doOpen_12 : decode cX12_doOpen 12 = .ok (.invokevirtual 90, 3) := by decide +kernel
theorem dX12_doOpen_15 : decode cX12_doOpen 15 = .ok (.ireturn, 1) := by decide +kernel
theorem dX12_doOpen_16 : decode cX12_doOpen 16 = .ok (.aload_n 0, 1) := by decide +kernel
theorem dX12_doOpen_17 : decode cX12_doOpen 17 = .ok (.getfield 9, 3) := by decide +kernel
theorem dX12_doOpen_20 : decode cX12_doOpen 20 = .ok (.iconst 4, 1) := by decide +kernel
theorem dX12_doOpen_21 : decode cX12_doOpen 21 = .ok (.iconst 1, 1) := by decide +kernel
theorem dX12_doOpen_22 : decode cX12_doOpen 22 = .ok (.iastore, 1) := by decide +kernel
theorem dX12_doOpen_23 : decode cX12_doOpen 23 = .ok (.aload_n 0, 1) := by decide +kernel
theorem dX12_doOpen_24 : decode cX12_doOpen 24 = .ok (.getfield 9, 3) := by decide +kernel
theorem dX12_doOpen_27 : decode cX12_doOpen 27 = .ok (.iconst 1, 1) := by decide +kernel
theorem dX12_doOpen_28 : decode cX12_doOpen 28 = .ok (.iaload, 1) := by decide +kernel
theorem dX12_doOpen_29 : decode cX12_doOpen 29 = .ok (.ireturn, 1) := by decide +kernel
theorem dX12_openPool_0 : decode cX12_openPool 0 = .ok (.aload_n 0, 1) := by decide +kernel
theorem dX12_openPool_1 : decode cX12_openPool 1 = .ok (.invokevirtual 101, 3) := by decide +kernel
theorem dX12_openPool_4 : decode cX12_openPool 4 = .ok (.aload_n 0, 1) := by decide +kernel
theorem dX12_openPool_5 : decode cX12_openPool 5 = .ok (.aload_n 0, 1) := by decide +kernel
theorem dX12_openPool_6 : decode cX12_openPool 6 = .ok (.invokevirtual 126, 3) := by decide +kernel
theorem dX12_openPool_9 : decode cX12_openPool 9 = .ok (.invokevirtual 107, 3) := by decide +kernel
theorem dX12_openPool_12 : decode cX12_openPool 12 = .ok (.ireturn, 1) := by decide +kernel
theorem dX12_doClose_0 : decode cX12_doClose 0 = .ok (.aload_n 0, 1) := by decide +kernel
theorem dX12_doClose_1 : decode cX12_doClose 1 = .ok (.getfield 9, 3) := by decide +kernel
theorem dX12_doClose_4 : decode cX12_doClose 4 = .ok (.iconst 4, 1) := by decide +kernel
theorem dX12_doClose_5 : decode cX12_doClose 5 = .ok (.iaload, 1) := by decide +kernel
theorem dX12_doClose_6 : decode cX12_doClose 6 = .ok (.ifCond .ne 9, 3) := by decide +kernel
theorem dX12_doClose_9 : decode cX12_doClose 9 = .ok (.aload_n 0, 1) := by decide +kernel
theorem dX12_doClose_10 : decode cX12_doClose 10 = .ok (.iconst 1, 1) := by decide +kernel
theorem dX12_doClose_11 : decode cX12_doClose 11 = .ok (.invokevirtual 90, 3) := by decide +kernel
theorem dX12_doClose_14 : decode cX12_doClose 14 = .ok (.ireturn, 1) := by decide +kernel
theorem dX12_doClose_15 : decode cX12_doClose 15 = .ok (.aload_n 0, 1) := by decide +kernel
theorem dX12_doClose_16 : decode cX12_doClose 16 = .ok (.invokevirtual 130, 3) := by decide +kernel
theorem dX12_doClose_19 : decode cX12_doClose 19 = .ok (.istore_n 1, 1) := by decide +kernel
theorem dX12_doClose_20 : decode cX12_doClose 20 = .ok (.iload_n 1, 1) := by decide +kernel
theorem dX12_doClose_21 : decode cX12_doClose 21 = .ok (.ifCond .ge 7, 3) := by decide +kernel
theorem dX12_doClose_24 : decode cX12_doClose 24 = .ok (.iconst 0, 1) := by decide +kernel
theorem dX12_doClose_25 : decode cX12_doClose 25 = .ok (.goto 8, 3) := by decide +kernel
theorem dX12_doClose_28 : decode cX12_doClose 28 = .ok (.aload_n 0, 1) := by decide +kernel
theorem dX12_doClose_29 : decode cX12_doClose 29 = .ok (.iload_n 1, 1) := by decide +kernel
theorem dX12_doClose_30 : decode cX12_doClose 30 = .ok (.invokevirtual 133, 3) := by decide +kernel
theorem dX12_doClose_33 : decode cX12_doClose 33 = .ok (.istore_n 2, 1) := by decide +kernel
theorem dX12_doClose_34 : decode cX12_doClose 34 = .ok (.iload_n 2, 1) := by decide +kernel
theorem dX12_doClose_35 : decode cX12_doClose 35 = .ok (.istore_n 3, 1) := by decide +kernel
theorem dX12_doClose_36 : decode cX12_doClose 36 = .ok (.iload_n 2, 1) := by decide +kernel
theorem dX12_doClose_37 : decode cX12_doClose 37 = .ok (.ifCond .le 95, 3) := by decide +kernel
theorem dX12_doClose_40 : decode cX12_doClose 40 = .ok (.aload_n 0, 1) := by decide +kernel
theorem dX12_doClose_41 : decode cX12_doClose 41 = .ok (.iconst 1, 1) := by decide +kernel
theorem dX12_doClose_42 : decode cX12_doClose 42 = .ok (.invokevirtual 70, 3) := by decide +kernel
theorem dX12_doClose_45 : decode cX12_doClose 45 = .ok (.istore 4, 2) := by decide +kernel
theorem dX12_doClose_47 : decode cX12_doClose 47 = .ok (.aload_n 0, 1) := by decide +kernel
theorem dX12_doClose_48 : decode cX12_doClose 48 = .ok (.iconst 0, 1) := by decide +kernel
theorem dX12_doClose_49 : decode cX12_doClose 49 = .ok (.invokevirtual 70, 3) := by decide +kernel
theorem dX12_doClose_52 : decode cX12_doClose 52 = .ok (.istore 5, 2) := by decide +kernel
theorem dX12_doClose_54 : decode cX12_doClose 54 = .ok (.iload_n 2, 1) := by decide +kernel
theorem dX12_doClose_55 : decode cX12_doClose 55 = .ok (.aload_n 0, 1) := by decide +kernel
theorem dX12_doClose_56 : decode cX12_doClose 56 = .ok (.iload 4, 2) := by decide +kernel
theorem dX12_doClose_58 : decode cX12_doClose 58 = .ok (.iconst 4, 1) := by decide +kernel
theorem dX12_doClose_59 : decode cX12_doClose 59 = .ok (.invokevirtual 55, 3) := by decide +kernel
theorem dX12_doClose_62 : decode cX12_doClose 62 = .ok (.aload_n 0, 1) := by decide +kernel
theorem dX12_doClose_63 : decode cX12_doClose 63 = .ok (.iload 5, 2) := by decide +kernel
theorem dX12_doClose_65 : decode cX12_doClose 65 = .ok (.iconst 4, 1) := by decide +kernel
theorem dX12_doClose_66 : decode cX12_doClose 66 = .ok (.invokevirtual 55, 3) := by decide +kernel
theorem dX12_doClose_69 : decode cX12_doClose 69 = .ok (.invokestatic 74, 3) := by decide +kernel
theorem dX12_doClose_72 : decode cX12_doClose 72 = .ok (.invokestatic 74, 3) := by decide +kernel
theorem dX12_doClose_75 : decode cX12_doClose 75 = .ok (.istore 6, 2) := by decide +kernel
theorem dX12_doClose_77 : decode cX12_doClose 77 = .ok (.aload_n 0, 1) := by decide +kernel
theorem dX12_doClose_78 : decode cX12_doClose 78 = .ok (.aload_n 0, 1) := by decide +kernel
theorem dX12_doClose_79 : decode cX12_doClose 79 = .ok (.iload 4, 2) := by decide +kernel
theorem dX12_doClose_81 : decode cX12_doClose 81 = .ok (.iconst 1, 1) := by decide +kernel
theorem dX12_doClose_82 : decode cX12_doClose 82 = .ok (.invokevirtual 55, 3) := by decide +kernel
theorem dX12_doClose_85 : decode cX12_doClose 85 = .ok (.aload_n 0, 1) := by decide +kernel
theorem dX12_doClose_86 : decode cX12_doClose 86 = .ok (.iload 5, 2) := by decide +kernel
theorem dX12_doClose_88 : decode cX12_doClose 88 = .ok (.iconst 1, 1) := by decide +kernel
theorem dX12_doClose_89 : decode cX12_doClose 89 = .ok (.invokevirtual 55, 3) := by decide +kernel
theorem dX12_doClose_92 : decode cX12_doClose 92 = .ok (.iload_n 1, 1) := by decide +kernel
theorem dX12_doClose_93 : decode cX12_doClose 93 = .ok (.iload 6, 2) := by decide +kernel
theorem dX12_doClose_95 : decode cX12_doClose 95 = .ok (.invokevirtual 79, 3) := by decide +kernel
theorem dX12_doClose_98 : decode cX12_doClose 98 = .ok (.aload_n 0, 1) := by decide +kernel
theorem dX12_doClose_99 : decode cX12_doClose 99 = .ok (.iload 4, 2) := by decide +kernel
theorem dX12_doClose_101 : decode cX12_doClose 101 = .ok (.iload 5, 2) := by decide +kernel
theorem dX12_doClose_103 : decode cX12_doClose 103 = .ok (.invokestatic 136, 3) := by decide +kernel
theorem dX12_doClose_106 : decode cX12_doClose 106 = .ok (.iload 6, 2) := by decide +kernel
theorem dX12_doClose_108 : decode cX12_doClose 108 = .ok (.invokevirtual 83, 3) := by decide +kernel
theorem dX12_doClose_111 : decode cX12_doClose 111 = .ok (.aload_n 0, 1) := by decide +kernel
theorem dX12_doClose_112 : decode cX12_doClose 112 = .ok (.iload 4, 2) := by decide +kernel
theorem dX12_doClose_114 : decode cX12_doClose 114 = .ok (.iload 5, 2) := by decide +kernel
theorem dX12_doClose_116 : decode cX12_doClose 116 = .ok (.invokestatic 74, 3) := by decide +kernel
theorem dX12_doClose_119 : decode cX12_doClose 119 = .ok (.iload 6, 2) := by decide +kernel
theorem dX12_doClose_121 : decode cX12_doClose 121 = .ok (.invokevirtual 83, 3) := by decide +kernel
theorem dX12_doClose_124 : decode cX12_doClose 124 = .ok (.iload_n 2, 1) := by decide +kernel
theorem dX12_doClose_125 : decode cX12_doClose 125 = .ok (.iload 6, 2) := by decide +kernel
theorem dX12_doClose_127 : decode cX12_doClose 127 = .ok (.isub, 1) := by decide +kernel
theorem dX12_doClose_128 : decode cX12_doClose 128 = .ok (.istore_n 2, 1) := by decide +kernel
theorem dX12_doClose_129 : decode cX12_doClose 129 = .ok (.goto (-93), 3) := by decide +kernel
theorem dX12_doClose_132 : decode cX12_doClose 132 = .ok (.aload_n 0, 1) := by decide +kernel
theorem dX12_doClose_133 : decode cX12_doClose 133 = .ok (.getfield 9, 3) := by decide +kernel
theorem dX12_doClose_136 : decode cX12_doClose 136 = .ok (.iconst 1, 1) := by decide +kernel
theorem dX12_doClose_137 : decode cX12_doClose 137 = .ok (.iconst 0, 1) := by decide +kernel
theorem dX12_doClose_138 : decode cX12_doClose 138 = .ok (.iastore, 1) := by decide +kernel
theorem dX12_doClose_139 : decode cX12_doClose 139 = .ok (.aload_n 0, 1) := by decide +kernel
theorem dX12_doClose_140 : decode cX12_doClose 140 = .ok (.getfield 9, 3) := by decide +kernel
theorem dX12_doClose_143 : decode cX12_doClose 143 = .ok (.iconst 4, 1) := by decide +kernel
theorem dX12_doClose_144 : decode cX12_doClose 144 = .ok (.iconst 0, 1) := by decide +kernel
theorem dX12_doClose_145 : decode cX12_doClose 145 = .ok (.iastore, 1) := by decide +kernel
theorem dX12_doClose_146 : decode cX12_doClose 146 = .ok (.iload_n 3, 1) := by decide +kernel
theorem dX12_doClose_147 : decode cX12_doClose 147 = .ok (.ireturn, 1) := by decide +kernel
theorem dX12_closePool_0 : decode cX12_closePool 0 = .ok (.aload_n 0, 1) := by decide +kernel
theorem dX12_closePool_1 : decode cX12_closePool 1 = .ok (.invokevirtual 101, 3) := by decide +kernel
theorem dX12_closePool_4 : decode cX12_closePool 4 = .ok (.aload_n 0, 1) := by decide +kernel
theorem dX12_closePool_5 : decode cX12_closePool 5 = .ok (.aload_n 0, 1) := by decide +kernel
theorem dX12_closePool_6 : decode cX12_closePool 6 = .ok (.invokevirtual 139, 3) := by decide +kernel
theorem dX12_closePool_9 : decode cX12_closePool 9 = .ok (.invokevirtual 107, 3) := by decide +kernel
theorem dX12_closePool_12 : decode cX12_closePool 12 = .ok (.ireturn, 1) := by decide +kernel
theorem dX12_stallCount_0 : decode cX12_stallCount 0 = .ok (.aload_n 0, 1) := by decide +kernel
theorem dX12_stallCount_1 : decode cX12_stallCount 1 = .ok (.iconst 0, 1) := by decide +kernel
theorem dX12_stallCount_2 : decode cX12_stallCount 2 = .ok (.putfield 39, 3) := by decide +kernel
theorem dX12_stallCount_5 : decode cX12_stallCount 5 = .ok (.aload_n 0, 1) := by decide +kernel
theorem dX12_stallCount_6 : decode cX12_stallCount 6 = .ok (.getfield 9, 3) := by decide +kernel
theorem dX12_stallCount_9 : decode cX12_stallCount 9 = .ok (.iconst 0, 1) := by decide +kernel
theorem dX12_stallCount_10 : decode cX12_stallCount 10 = .ok (.iaload, 1) := by decide +kernel
theorem dX12_stallCount_11 : decode cX12_stallCount 11 = .ok (.ireturn, 1) := by decide +kernel
theorem dX12_moneyOf_0 : decode cX12_moneyOf 0 = .ok (.aload_n 0, 1) := by decide +kernel
theorem dX12_moneyOf_1 : decode cX12_moneyOf 1 = .ok (.aload_n 0, 1) := by decide +kernel
theorem dX12_moneyOf_2 : decode cX12_moneyOf 2 = .ok (.iload_n 1, 1) := by decide +kernel
theorem dX12_moneyOf_3 : decode cX12_moneyOf 3 = .ok (.invokevirtual 87, 3) := by decide +kernel
theorem dX12_moneyOf_6 : decode cX12_moneyOf 6 = .ok (.invokevirtual 142, 3) := by decide +kernel
theorem dX12_moneyOf_9 : decode cX12_moneyOf 9 = .ok (.ifCond .eq 12, 3) := by decide +kernel
theorem dX12_moneyOf_12 : decode cX12_moneyOf 12 = .ok (.aload_n 0, 1) := by decide +kernel
theorem dX12_moneyOf_13 : decode cX12_moneyOf 13 = .ok (.iload_n 1, 1) := by decide +kernel
theorem dX12_moneyOf_14 : decode cX12_moneyOf 14 = .ok (.iconst 0, 1) := by decide +kernel
theorem dX12_moneyOf_15 : decode cX12_moneyOf 15 = .ok (.invokevirtual 59, 3) := by decide +kernel
theorem dX12_moneyOf_18 : decode cX12_moneyOf 18 = .ok (.goto 4, 3) := by decide +kernel
theorem dX12_moneyOf_21 : decode cX12_moneyOf 21 = .ok (.iconst 0, 1) := by decide +kernel
theorem dX12_moneyOf_22 : decode cX12_moneyOf 22 = .ok (.ireturn, 1) := by decide +kernel
theorem dX12_dropsOf_0 : decode cX12_dropsOf 0 = .ok (.aload_n 0, 1) := by decide +kernel
theorem dX12_dropsOf_1 : decode cX12_dropsOf 1 = .ok (.aload_n 0, 1) := by decide +kernel
theorem dX12_dropsOf_2 : decode cX12_dropsOf 2 = .ok (.iload_n 1, 1) := by decide +kernel
theorem dX12_dropsOf_3 : decode cX12_dropsOf 3 = .ok (.invokevirtual 87, 3) := by decide +kernel
theorem dX12_dropsOf_6 : decode cX12_dropsOf 6 = .ok (.invokevirtual 142, 3) := by decide +kernel
theorem dX12_dropsOf_9 : decode cX12_dropsOf 9 = .ok (.ifCond .eq 12, 3) := by decide +kernel
theorem dX12_dropsOf_12 : decode cX12_dropsOf 12 = .ok (.aload_n 0, 1) := by decide +kernel
theorem dX12_dropsOf_13 : decode cX12_dropsOf 13 = .ok (.iload_n 1, 1) := by decide +kernel
theorem dX12_dropsOf_14 : decode cX12_dropsOf 14 = .ok (.iconst 1, 1) := by decide +kernel
theorem dX12_dropsOf_15 : decode cX12_dropsOf 15 = .ok (.invokevirtual 59, 3) := by decide +kernel
theorem dX12_dropsOf_18 : decode cX12_dropsOf 18 = .ok (.goto 4, 3) := by decide +kernel
theorem dX12_dropsOf_21 : decode cX12_dropsOf 21 = .ok (.iconst 0, 1) := by decide +kernel
theorem dX12_dropsOf_22 : decode cX12_dropsOf 22 = .ok (.ireturn, 1) := by decide +kernel
theorem dX12_freeMoneyOf_0 : decode cX12_freeMoneyOf 0 = .ok (.aload_n 0, 1) := by decide +kernel
theorem dX12_freeMoneyOf_1 : decode cX12_freeMoneyOf 1 = .ok (.aload_n 0, 1) := by decide +kernel
theorem dX12_freeMoneyOf_2 : decode cX12_freeMoneyOf 2 = .ok (.iload_n 1, 1) := by decide +kernel
theorem dX12_freeMoneyOf_3 : decode cX12_freeMoneyOf 3 = .ok (.invokevirtual 87, 3) := by decide +kernel
theorem dX12_freeMoneyOf_6 : decode cX12_freeMoneyOf 6 = .ok (.invokevirtual 142, 3) := by decide +kernel
theorem dX12_freeMoneyOf_9 : decode cX12_freeMoneyOf 9 = .ok (.ifCond .eq 12, 3) := by decide +kernel
theorem dX12_freeMoneyOf_12 : decode cX12_freeMoneyOf 12 = .ok (.aload_n 0, 1) := by decide +kernel
theorem dX12_freeMoneyOf_13 : decode cX12_freeMoneyOf 13 = .ok (.iload_n 1, 1) := by decide +kernel
theorem dX12_freeMoneyOf_14 : decode cX12_freeMoneyOf 14 = .ok (.iconst 0, 1) := by decide +kernel
theorem dX12_freeMoneyOf_15 : decode cX12_freeMoneyOf 15 = .ok (.invokevirtual 94, 3) := by decide +kernel
theorem dX12_freeMoneyOf_18 : decode cX12_freeMoneyOf 18 = .ok (.goto 4, 3) := by decide +kernel
theorem dX12_freeMoneyOf_21 : decode cX12_freeMoneyOf 21 = .ok (.iconst 0, 1) := by decide +kernel
theorem dX12_freeMoneyOf_22 : decode cX12_freeMoneyOf 22 = .ok (.ireturn, 1) := by decide +kernel
theorem dX12_freeDropsOf_0 : decode cX12_freeDropsOf 0 = .ok (.aload_n 0, 1) := by decide +kernel
theorem dX12_freeDropsOf_1 : decode cX12_freeDropsOf 1 = .ok (.aload_n 0, 1) := by decide +kernel
theorem dX12_freeDropsOf_2 : decode cX12_freeDropsOf 2 = .ok (.iload_n 1, 1) := by decide +kernel
theorem dX12_freeDropsOf_3 : decode cX12_freeDropsOf 3 = .ok (.invokevirtual 87, 3) := by decide +kernel
theorem dX12_freeDropsOf_6 : decode cX12_freeDropsOf 6 = .ok (.invokevirtual 142, 3) := by decide +kernel
theorem dX12_freeDropsOf_9 : decode cX12_freeDropsOf 9 = .ok (.ifCond .eq 12, 3) := by decide +kernel
theorem dX12_freeDropsOf_12 : decode cX12_freeDropsOf 12 = .ok (.aload_n 0, 1) := by decide +kernel
theorem dX12_freeDropsOf_13 : decode cX12_freeDropsOf 13 = .ok (.iload_n 1, 1) := by decide +kernel
theorem dX12_freeDropsOf_14 : decode cX12_freeDropsOf 14 = .ok (.iconst 1, 1) := by decide +kernel
theorem dX12_freeDropsOf_15 : decode cX12_freeDropsOf 15 = .ok (.invokevirtual 94, 3) := by decide +kernel
theorem dX12_freeDropsOf_18 : decode cX12_freeDropsOf 18 = .ok (.goto 4, 3) := by decide +kernel
theorem dX12_freeDropsOf_21 : decode cX12_freeDropsOf 21 = .ok (.iconst 0, 1) := by decide +kernel
theorem dX12_freeDropsOf_22 : decode cX12_freeDropsOf 22 = .ok (.ireturn, 1) := by decide +kernel
theorem dX12_total_0 : decode cX12_total 0 = .ok (.aload_n 0, 1) := by decide +kernel
theorem dX12_total_1 : decode cX12_total 1 = .ok (.iconst 0, 1) := by decide +kernel
theorem dX12_total_2 : decode cX12_total 2 = .ok (.putfield 39, 3) := by decide +kernel
theorem dX12_total_5 : decode cX12_total 5 = .ok (.iconst 0, 1) := by decide +kernel
theorem dX12_total_6 : decode cX12_total 6 = .ok (.istore_n 2, 1) := by decide +kernel
theorem dX12_total_7 : decode cX12_total 7 = .ok (.iconst 0, 1) := by decide +kernel
theorem dX12_total_8 : decode cX12_total 8 = .ok (.istore_n 3, 1) := by decide +kernel
theorem dX12_total_9 : decode cX12_total 9 = .ok (.iload_n 3, 1) := by decide +kernel
theorem dX12_total_10 : decode cX12_total 10 = .ok (.aload_n 0, 1) := by decide +kernel
theorem dX12_total_11 : decode cX12_total 11 = .ok (.getfield 9, 3) := by decide +kernel
theorem dX12_total_14 : decode cX12_total 14 = .ok (.iconst 0, 1) := by decide +kernel
theorem dX12_total_15 : decode cX12_total 15 = .ok (.iaload, 1) := by decide +kernel
theorem dX12_total_16 : decode cX12_total 16 = .ok (.if_icmp .ge 18, 3) := by decide +kernel
theorem dX12_total_19 : decode cX12_total 19 = .ok (.iload_n 2, 1) := by decide +kernel
theorem dX12_total_20 : decode cX12_total 20 = .ok (.aload_n 0, 1) := by decide +kernel
theorem dX12_total_21 : decode cX12_total 21 = .ok (.iload_n 3, 1) := by decide +kernel
theorem dX12_total_22 : decode cX12_total 22 = .ok (.iload_n 1, 1) := by decide +kernel
theorem dX12_total_23 : decode cX12_total 23 = .ok (.invokevirtual 59, 3) := by decide +kernel
theorem dX12_total_26 : decode cX12_total 26 = .ok (.iadd, 1) := by decide +kernel
theorem dX12_total_27 : decode cX12_total 27 = .ok (.istore_n 2, 1) := by decide +kernel
theorem dX12_total_28 : decode cX12_total 28 = .ok (.iinc 3 1, 3) := by decide +kernel
theorem dX12_total_31 : decode cX12_total 31 = .ok (.goto (-22), 3) := by decide +kernel
theorem dX12_total_34 : decode cX12_total 34 = .ok (.iload_n 2, 1) := by decide +kernel
theorem dX12_total_35 : decode cX12_total 35 = .ok (.ireturn, 1) := by decide +kernel
theorem dX12_totalMoney_0 : decode cX12_totalMoney 0 = .ok (.aload_n 0, 1) := by decide +kernel
theorem dX12_totalMoney_1 : decode cX12_totalMoney 1 = .ok (.iconst 0, 1) := by decide +kernel
theorem dX12_totalMoney_2 : decode cX12_totalMoney 2 = .ok (.invokevirtual 146, 3) := by decide +kernel
theorem dX12_totalMoney_5 : decode cX12_totalMoney 5 = .ok (.ireturn, 1) := by decide +kernel
theorem dX12_totalDrops_0 : decode cX12_totalDrops 0 = .ok (.aload_n 0, 1) := by decide +kernel
theorem dX12_totalDrops_1 : decode cX12_totalDrops 1 = .ok (.iconst 1, 1) := by decide +kernel
theorem dX12_totalDrops_2 : decode cX12_totalDrops 2 = .ok (.invokevirtual 146, 3) := by decide +kernel
theorem dX12_totalDrops_5 : decode cX12_totalDrops 5 = .ok (.ireturn, 1) := by decide +kernel
theorem dX12_stallByMoney_0 : decode cX12_stallByMoney 0 = .ok (.iconst 0, 1) := by decide +kernel
theorem dX12_stallByMoney_1 : decode cX12_stallByMoney 1 = .ok (.istore_n 2, 1) := by decide +kernel
theorem dX12_stallByMoney_2 : decode cX12_stallByMoney 2 = .ok (.aload_n 0, 1) := by decide +kernel
theorem dX12_stallByMoney_3 : decode cX12_stallByMoney 3 = .ok (.aload_n 0, 1) := by decide +kernel
theorem dX12_stallByMoney_4 : decode cX12_stallByMoney 4 = .ok (.iload_n 1, 1) := by decide +kernel
theorem dX12_stallByMoney_5 : decode cX12_stallByMoney 5 = .ok (.invokevirtual 87, 3) := by decide +kernel
theorem dX12_stallByMoney_8 : decode cX12_stallByMoney 8 = .ok (.invokevirtual 142, 3) := by decide +kernel
theorem dX12_stallByMoney_11 : decode cX12_stallByMoney 11 = .ok (.istore_n 3, 1) := by decide +kernel
theorem dX12_stallByMoney_12 : decode cX12_stallByMoney 12 = .ok (.iconst 0, 1) := by decide +kernel
theorem dX12_stallByMoney_13 : decode cX12_stallByMoney 13 = .ok (.istore 4, 2) := by decide +kernel
theorem dX12_stallByMoney_15 : decode cX12_stallByMoney 15 = .ok (.iload 4, 2) := by decide +kernel
theorem dX12_stallByMoney_17 : decode cX12_stallByMoney 17 = .ok (.aload_n 0, 1) := by decide +kernel
theorem dX12_stallByMoney_18 : decode cX12_stallByMoney 18 = .ok (.getfield 9, 3) := by decide +kernel
theorem dX12_stallByMoney_21 : decode cX12_stallByMoney 21 = .ok (.iconst 0, 1) := by decide +kernel
theorem dX12_stallByMoney_22 : decode cX12_stallByMoney 22 = .ok (.iaload, 1) := by decide +kernel
theorem dX12_stallByMoney_23 : decode cX12_stallByMoney 23 = .ok (.if_icmp .ge 93, 3) := by decide +kernel
theorem dX12_stallByMoney_26 : decode cX12_stallByMoney 26 = .ok (.iload_n 3, 1) := by decide +kernel
theorem dX12_stallByMoney_27 : decode cX12_stallByMoney 27 = .ok (.ifCond .eq 89, 3) := by decide +kernel
theorem dX12_stallByMoney_30 : decode cX12_stallByMoney 30 = .ok (.iconst 0, 1) := by decide +kernel
theorem dX12_stallByMoney_31 : decode cX12_stallByMoney 31 = .ok (.istore 5, 2) := by decide +kernel
theorem dX12_stallByMoney_33 : decode cX12_stallByMoney 33 = .ok (.iconst 0, 1) := by decide +kernel
theorem dX12_stallByMoney_34 : decode cX12_stallByMoney 34 = .ok (.istore 6, 2) := by decide +kernel
theorem dX12_stallByMoney_36 : decode cX12_stallByMoney 36 = .ok (.iload 6, 2) := by decide +kernel
theorem dX12_stallByMoney_38 : decode cX12_stallByMoney 38 = .ok (.aload_n 0, 1) := by decide +kernel
theorem dX12_stallByMoney_39 : decode cX12_stallByMoney 39 = .ok (.getfield 9, 3) := by decide +kernel
theorem dX12_stallByMoney_42 : decode cX12_stallByMoney 42 = .ok (.iconst 0, 1) := by decide +kernel
theorem dX12_stallByMoney_43 : decode cX12_stallByMoney 43 = .ok (.iaload, 1) := by decide +kernel
theorem dX12_stallByMoney_44 : decode cX12_stallByMoney 44 = .ok (.if_icmp .ge 53, 3) := by decide +kernel
theorem dX12_stallByMoney_47 : decode cX12_stallByMoney 47 = .ok (.aload_n 0, 1) := by decide +kernel
theorem dX12_stallByMoney_48 : decode cX12_stallByMoney 48 = .ok (.iload 6, 2) := by decide +kernel
theorem dX12_stallByMoney_50 : decode cX12_stallByMoney 50 = .ok (.iconst 0, 1) := by decide +kernel
theorem dX12_stallByMoney_51 : decode cX12_stallByMoney 51 = .ok (.invokevirtual 59, 3) := by decide +kernel
theorem dX12_stallByMoney_54 : decode cX12_stallByMoney 54 = .ok (.aload_n 0, 1) := by decide +kernel
theorem dX12_stallByMoney_55 : decode cX12_stallByMoney 55 = .ok (.iload 4, 2) := by decide +kernel
theorem dX12_stallByMoney_57 : decode cX12_stallByMoney 57 = .ok (.iconst 0, 1) := by decide +kernel
theorem dX12_stallByMoney_58 : decode cX12_stallByMoney 58 = .ok (.invokevirtual 59, 3) := by decide +kernel
theorem dX12_stallByMoney_61 : decode cX12_stallByMoney 61 = .ok (.isub, 1) := by decide +kernel
theorem dX12_stallByMoney_62 : decode cX12_stallByMoney 62 = .ok (.istore 7, 2) := by decide +kernel
theorem dX12_stallByMoney_64 : decode cX12_stallByMoney 64 = .ok (.iload 5, 2) := by decide +kernel
theorem dX12_stallByMoney_66 : decode cX12_stallByMoney 66 = .ok (.iload 7, 2) := by decide +kernel
theorem dX12_stallByMoney_68 : decode cX12_stallByMoney 68 = .ok (.ifCond .gt 15, 3) := by decide +kernel
theorem dX12_stallByMoney_71 : decode cX12_stallByMoney 71 = .ok (.iload 7, 2) := by decide +kernel
theorem dX12_stallByMoney_73 : decode cX12_stallByMoney 73 = .ok (.ifCond .ne 14, 3) := by decide +kernel
theorem dX12_stallByMoney_76 : decode cX12_stallByMoney 76 = .ok (.iload 6, 2) := by decide +kernel
theorem dX12_stallByMoney_78 : decode cX12_stallByMoney 78 = .ok (.iload 4, 2) := by decide +kernel
theorem dX12_stallByMoney_80 : decode cX12_stallByMoney 80 = .ok (.if_icmp .ge 7, 3) := by decide +kernel
theorem dX12_stallByMoney_83 : decode cX12_stallByMoney 83 = .ok (.iconst 1, 1) := by decide +kernel
theorem dX12_stallByMoney_84 : decode cX12_stallByMoney 84 = .ok (.goto 4, 3) := by decide +kernel
theorem dX12_stallByMoney_87 : decode cX12_stallByMoney 87 = .ok (.iconst 0, 1) := by decide +kernel
theorem dX12_stallByMoney_88 : decode cX12_stallByMoney 88 = .ok (.iadd, 1) := by decide +kernel
theorem dX12_stallByMoney_89 : decode cX12_stallByMoney 89 = .ok (.istore 5, 2) := by decide +kernel
theorem dX12_stallByMoney_91 : decode cX12_stallByMoney 91 = .ok (.iinc 6 1, 3) := by decide +kernel
theorem dX12_stallByMoney_94 : decode cX12_stallByMoney 94 = .ok (.goto (-58), 3) := by decide +kernel
theorem dX12_stallByMoney_97 : decode cX12_stallByMoney 97 = .ok (.iload 5, 2) := by decide +kernel
theorem dX12_stallByMoney_99 : decode cX12_stallByMoney 99 = .ok (.iload_n 1, 1) := by decide +kernel
theorem dX12_stallByMoney_100 : decode cX12_stallByMoney 100 = .ok (.if_icmp .ne 8, 3) := by decide +kernel
theorem dX12_stallByMoney_103 : decode cX12_stallByMoney 103 = .ok (.iload 4, 2) := by decide +kernel
theorem dX12_stallByMoney_105 : decode cX12_stallByMoney 105 = .ok (.goto 4, 3) := by decide +kernel
theorem dX12_stallByMoney_108 : decode cX12_stallByMoney 108 = .ok (.iload_n 2, 1) := by decide +kernel
theorem dX12_stallByMoney_109 : decode cX12_stallByMoney 109 = .ok (.istore_n 2, 1) := by decide +kernel
theorem dX12_stallByMoney_110 : decode cX12_stallByMoney 110 = .ok (.iinc 4 1, 3) := by decide +kernel
theorem dX12_stallByMoney_113 : decode cX12_stallByMoney 113 = .ok (.goto (-98), 3) := by decide +kernel
theorem dX12_stallByMoney_116 : decode cX12_stallByMoney 116 = .ok (.iload_n 2, 1) := by decide +kernel
theorem dX12_stallByMoney_117 : decode cX12_stallByMoney 117 = .ok (.ireturn, 1) := by decide +kernel
theorem dX12_orderCount_0 : decode cX12_orderCount 0 = .ok (.aload_n 0, 1) := by decide +kernel
theorem dX12_orderCount_1 : decode cX12_orderCount 1 = .ok (.iconst 0, 1) := by decide +kernel
theorem dX12_orderCount_2 : decode cX12_orderCount 2 = .ok (.putfield 39, 3) := by decide +kernel
theorem dX12_orderCount_5 : decode cX12_orderCount 5 = .ok (.aload_n 0, 1) := by decide +kernel
theorem dX12_orderCount_6 : decode cX12_orderCount 6 = .ok (.getfield 9, 3) := by decide +kernel
theorem dX12_orderCount_9 : decode cX12_orderCount 9 = .ok (.iconst 1, 1) := by decide +kernel
theorem dX12_orderCount_10 : decode cX12_orderCount 10 = .ok (.iaload, 1) := by decide +kernel
theorem dX12_orderCount_11 : decode cX12_orderCount 11 = .ok (.ireturn, 1) := by decide +kernel
theorem dX12_orderAt_0 : decode cX12_orderAt 0 = .ok (.aload_n 0, 1) := by decide +kernel
theorem dX12_orderAt_1 : decode cX12_orderAt 1 = .ok (.iload_n 1, 1) := by decide +kernel
theorem dX12_orderAt_2 : decode cX12_orderAt 2 = .ok (.iconst 0, 1) := by decide +kernel
theorem dX12_orderAt_3 : decode cX12_orderAt 3 = .ok (.aload_n 0, 1) := by decide +kernel
theorem dX12_orderAt_4 : decode cX12_orderAt 4 = .ok (.getfield 9, 3) := by decide +kernel
theorem dX12_orderAt_7 : decode cX12_orderAt 7 = .ok (.iconst 1, 1) := by decide +kernel
theorem dX12_orderAt_8 : decode cX12_orderAt 8 = .ok (.iaload, 1) := by decide +kernel
theorem dX12_orderAt_9 : decode cX12_orderAt 9 = .ok (.iconst 1, 1) := by decide +kernel
theorem dX12_orderAt_10 : decode cX12_orderAt 10 = .ok (.isub, 1) := by decide +kernel
theorem dX12_orderAt_11 : decode cX12_orderAt 11 = .ok (.invokestatic 51, 3) := by decide +kernel
theorem dX12_orderAt_14 : decode cX12_orderAt 14 = .ok (.invokevirtual 142, 3) := by decide +kernel
theorem dX12_orderAt_17 : decode cX12_orderAt 17 = .ok (.ifCond .eq 12, 3) := by decide +kernel
theorem dX12_orderAt_20 : decode cX12_orderAt 20 = .ok (.aload_n 0, 1) := by decide +kernel
theorem dX12_orderAt_21 : decode cX12_orderAt 21 = .ok (.iload_n 1, 1) := by decide +kernel
theorem dX12_orderAt_22 : decode cX12_orderAt 22 = .ok (.iconst 0, 1) := by decide +kernel
theorem dX12_orderAt_23 : decode cX12_orderAt 23 = .ok (.invokevirtual 55, 3) := by decide +kernel
theorem dX12_orderAt_26 : decode cX12_orderAt 26 = .ok (.goto 4, 3) := by decide +kernel
theorem dX12_orderAt_29 : decode cX12_orderAt 29 = .ok (.iconst 0, 1) := by decide +kernel
theorem dX12_orderAt_30 : decode cX12_orderAt 30 = .ok (.ireturn, 1) := by decide +kernel
theorem dX12_tells_0 : decode cX12_tells 0 = .ok (.aload_n 0, 1) := by decide +kernel
theorem dX12_tells_1 : decode cX12_tells 1 = .ok (.iload_n 1, 1) := by decide +kernel
theorem dX12_tells_2 : decode cX12_tells 2 = .ok (.invokevirtual 117, 3) := by decide +kernel
theorem dX12_tells_5 : decode cX12_tells 5 = .ok (.istore_n 3, 1) := by decide +kernel
theorem dX12_tells_6 : decode cX12_tells 6 = .ok (.aload_n 0, 1) := by decide +kernel
theorem dX12_tells_7 : decode cX12_tells 7 = .ok (.iload_n 3, 1) := by decide +kernel
theorem dX12_tells_8 : decode cX12_tells 8 = .ok (.ifCond .lt 7, 3) := by decide +kernel
theorem dX12_tells_11 : decode cX12_tells 11 = .ok (.iconst 1, 1) := by decide +kernel
theorem dX12_tells_12 : decode cX12_tells 12 = .ok (.goto 4, 3) := by decide +kernel
theorem dX12_tells_15 : decode cX12_tells 15 = .ok (.iconst 0, 1) := by decide +kernel
theorem dX12_tells_16 : decode cX12_tells 16 = .ok (.invokevirtual 142, 3) := by decide +kernel
theorem dX12_tells_19 : decode cX12_tells 19 = .ok (.ifCond .eq 12, 3) := by decide +kernel
theorem dX12_tells_22 : decode cX12_tells 22 = .ok (.aload_n 0, 1) := by decide +kernel
theorem dX12_tells_23 : decode cX12_tells 23 = .ok (.iload_n 3, 1) := by decide +kernel
theorem dX12_tells_24 : decode cX12_tells 24 = .ok (.iload_n 2, 1) := by decide +kernel
theorem dX12_tells_25 : decode cX12_tells 25 = .ok (.invokevirtual 55, 3) := by decide +kernel
theorem dX12_tells_28 : decode cX12_tells 28 = .ok (.goto 4, 3) := by decide +kernel
theorem dX12_tells_31 : decode cX12_tells 31 = .ok (.iconst 0, 1) := by decide +kernel
theorem dX12_tells_32 : decode cX12_tells 32 = .ok (.ireturn, 1) := by decide +kernel
theorem dX12_stallOf_0 : decode cX12_stallOf 0 = .ok (.aload_n 0, 1) := by decide +kernel
theorem dX12_stallOf_1 : decode cX12_stallOf 1 = .ok (.iload_n 1, 1) := by decide +kernel
theorem dX12_stallOf_2 : decode cX12_stallOf 2 = .ok (.iconst 1, 1) := by decide +kernel
theorem dX12_stallOf_3 : decode cX12_stallOf 3 = .ok (.invokevirtual 149, 3) := by decide +kernel
theorem dX12_stallOf_6 : decode cX12_stallOf 6 = .ok (.ireturn, 1) := by decide +kernel
theorem dX12_isBuying_0 : decode cX12_isBuying 0 = .ok (.aload_n 0, 1) := by decide +kernel
theorem dX12_isBuying_1 : decode cX12_isBuying 1 = .ok (.iload_n 1, 1) := by decide +kernel
theorem dX12_isBuying_2 : decode cX12_isBuying 2 = .ok (.iconst 2, 1) := by decide +kernel
theorem dX12_isBuying_3 : decode cX12_isBuying 3 = .ok (.invokevirtual 149, 3) := by decide +kernel
theorem dX12_isBuying_6 : decode cX12_isBuying 6 = .ok (.iconst 1, 1) := by decide +kernel
theorem dX12_isBuying_7 : decode cX12_isBuying 7 = .ok (.if_icmp .ne 7, 3) := by decide +kernel
theorem dX12_isBuying_10 : decode cX12_isBuying 10 = .ok (.iconst 1, 1) := by decide +kernel
theorem dX12_isBuying_11 : decode cX12_isBuying 11 = .ok (.goto 4, 3) := by decide +kernel
theorem dX12_isBuying_14 : decode cX12_isBuying 14 = .ok (.iconst 0, 1) := by decide +kernel
theorem dX12_isBuying_15 : decode cX12_isBuying 15 = .ok (.ireturn, 1) := by decide +kernel
theorem dX12_priceOf_0 : decode cX12_priceOf 0 = .ok (.aload_n 0, 1) := by decide +kernel
theorem dX12_priceOf_1 : decode cX12_priceOf 1 = .ok (.iload_n 1, 1) := by decide +kernel
theorem dX12_priceOf_2 : decode cX12_priceOf 2 = .ok (.iconst 3, 1) := by decide +kernel
theorem dX12_priceOf_3 : decode cX12_priceOf 3 = .ok (.invokevirtual 149, 3) := by decide +kernel
theorem dX12_priceOf_6 : decode cX12_priceOf 6 = .ok (.ireturn, 1) := by decide +kernel
theorem dX12_quantityOf_0 : decode cX12_quantityOf 0 = .ok (.aload_n 0, 1) := by decide +kernel
theorem dX12_quantityOf_1 : decode cX12_quantityOf 1 = .ok (.iload_n 1, 1) := by decide +kernel
theorem dX12_quantityOf_2 : decode cX12_quantityOf 2 = .ok (.iconst 4, 1) := by decide +kernel
theorem dX12_quantityOf_3 : decode cX12_quantityOf 3 = .ok (.invokevirtual 149, 3) := by decide +kernel
theorem dX12_quantityOf_6 : decode cX12_quantityOf 6 = .ok (.ireturn, 1) := by decide +kernel
theorem dX12_minutesLeft_0 : decode cX12_minutesLeft 0 = .ok (.aload_n 0, 1) := by decide +kernel
theorem dX12_minutesLeft_1 : decode cX12_minutesLeft 1 = .ok (.iload_n 1, 1) := by decide +kernel
theorem dX12_minutesLeft_2 : decode cX12_minutesLeft 2 = .ok (.iconst 5, 1) := by decide +kernel
theorem dX12_minutesLeft_3 : decode cX12_minutesLeft 3 = .ok (.invokevirtual 149, 3) := by decide +kernel
theorem dX12_minutesLeft_6 : decode cX12_minutesLeft 6 = .ok (.istore_n 2, 1) := by decide +kernel
theorem dX12_minutesLeft_7 : decode cX12_minutesLeft 7 = .ok (.aload_n 0, 1) := by decide +kernel
theorem dX12_minutesLeft_8 : decode cX12_minutesLeft 8 = .ok (.aload_n 0, 1) := by decide +kernel
theorem dX12_minutesLeft_9 : decode cX12_minutesLeft 9 = .ok (.getfield 39, 3) := by decide +kernel
theorem dX12_minutesLeft_12 : decode cX12_minutesLeft 12 = .ok (.ifCond .le 7, 3) := by decide +kernel
theorem dX12_minutesLeft_15 : decode cX12_minutesLeft 15 = .ok (.iconst 1, 1) := by decide +kernel
theorem dX12_minutesLeft_16 : decode cX12_minutesLeft 16 = .ok (.goto 12, 3) := by decide +kernel
theorem dX12_minutesLeft_19 : decode cX12_minutesLeft 19 = .ok (.iload_n 2, 1) := by decide +kernel
theorem dX12_minutesLeft_20 : decode cX12_minutesLeft 20 = .ok (.ifCond .ne 7, 3) := by decide +kernel
theorem dX12_minutesLeft_23 : decode cX12_minutesLeft 23 = .ok (.iconst 2, 1) := by decide +kernel
theorem dX12_minutesLeft_24 : decode cX12_minutesLeft 24 = .ok (.goto 4, 3) := by decide +kernel
theorem dX12_minutesLeft_27 : decode cX12_minutesLeft 27 = .ok (.iconst 0, 1) := by decide +kernel
theorem dX12_minutesLeft_28 : decode cX12_minutesLeft 28 = .ok (.putfield 39, 3) := by decide +kernel
theorem dX12_minutesLeft_31 : decode cX12_minutesLeft 31 = .ok (.iload_n 2, 1) := by decide +kernel
theorem dX12_minutesLeft_32 : decode cX12_minutesLeft 32 = .ok (.ireturn, 1) := by decide +kernel
theorem dX12_asksBest_0 : decode cX12_asksBest 0 = .ok (.aload_n 0, 1) := by decide +kernel
theorem dX12_asksBest_1 : decode cX12_asksBest 1 = .ok (.iload_n 1, 1) := by decide +kernel
theorem dX12_asksBest_2 : decode cX12_asksBest 2 = .ok (.invokevirtual 70, 3) := by decide +kernel
theorem dX12_asksBest_5 : decode cX12_asksBest 5 = .ok (.istore_n 2, 1) := by decide +kernel
theorem dX12_asksBest_6 : decode cX12_asksBest 6 = .ok (.aload_n 0, 1) := by decide +kernel
theorem dX12_asksBest_7 : decode cX12_asksBest 7 = .ok (.iload_n 2, 1) := by decide +kernel
theorem dX12_asksBest_8 : decode cX12_asksBest 8 = .ok (.ifCond .lt 7, 3) := by decide +kernel
theorem dX12_asksBest_11 : decode cX12_asksBest 11 = .ok (.iconst 1, 1) := by decide +kernel
theorem dX12_asksBest_12 : decode cX12_asksBest 12 = .ok (.goto 4, 3) := by decide +kernel
theorem dX12_asksBest_15 : decode cX12_asksBest 15 = .ok (.iconst 0, 1) := by decide +kernel
theorem dX12_asksBest_16 : decode cX12_asksBest 16 = .ok (.invokevirtual 142, 3) := by decide +kernel
theorem dX12_asksBest_19 : decode cX12_asksBest 19 = .ok (.ifCond .eq 12, 3) := by decide +kernel
theorem dX12_asksBest_22 : decode cX12_asksBest 22 = .ok (.aload_n 0, 1) := by decide +kernel
theorem dX12_asksBest_23 : decode cX12_asksBest 23 = .ok (.iload_n 2, 1) := by decide +kernel
theorem dX12_asksBest_24 : decode cX12_asksBest 24 = .ok (.iconst 0, 1) := by decide +kernel
theorem dX12_asksBest_25 : decode cX12_asksBest 25 = .ok (.invokevirtual 55, 3) := by decide +kernel
theorem dX12_asksBest_28 : decode cX12_asksBest 28 = .ok (.goto 4, 3) := by decide +kernel
theorem dX12_asksBest_31 : decode cX12_asksBest 31 = .ok (.iconst 0, 1) := by decide +kernel
theorem dX12_asksBest_32 : decode cX12_asksBest 32 = .ok (.ireturn, 1) := by decide +kernel
theorem dX12_bestBuy_0 : decode cX12_bestBuy 0 = .ok (.aload_n 0, 1) := by decide +kernel
theorem dX12_bestBuy_1 : decode cX12_bestBuy 1 = .ok (.iconst 1, 1) := by decide +kernel
theorem dX12_bestBuy_2 : decode cX12_bestBuy 2 = .ok (.invokevirtual 152, 3) := by decide +kernel
theorem dX12_bestBuy_5 : decode cX12_bestBuy 5 = .ok (.ireturn, 1) := by decide +kernel
theorem dX12_bestSell_0 : decode cX12_bestSell 0 = .ok (.aload_n 0, 1) := by decide +kernel
theorem dX12_bestSell_1 : decode cX12_bestSell 1 = .ok (.iconst 0, 1) := by decide +kernel
theorem dX12_bestSell_2 : decode cX12_bestSell 2 = .ok (.invokevirtual 152, 3) := by decide +kernel
theorem dX12_bestSell_5 : decode cX12_bestSell 5 = .ok (.ireturn, 1) := by decide +kernel
theorem dX12_spread_0 : decode cX12_spread 0 = .ok (.aload_n 0, 1) := by decide +kernel
theorem dX12_spread_1 : decode cX12_spread 1 = .ok (.iconst 1, 1) := by decide +kernel
theorem dX12_spread_2 : decode cX12_spread 2 = .ok (.invokevirtual 70, 3) := by decide +kernel
theorem dX12_spread_5 : decode cX12_spread 5 = .ok (.istore_n 1, 1) := by decide +kernel
theorem dX12_spread_6 : decode cX12_spread 6 = .ok (.aload_n 0, 1) := by decide +kernel
theorem dX12_spread_7 : decode cX12_spread 7 = .ok (.iconst 0, 1) := by decide +kernel
theorem dX12_spread_8 : decode cX12_spread 8 = .ok (.invokevirtual 70, 3) := by decide +kernel
theorem dX12_spread_11 : decode cX12_spread 11 = .ok (.istore_n 2, 1) := by decide +kernel
theorem dX12_spread_12 : decode cX12_spread 12 = .ok (.aload_n 0, 1) := by decide +kernel
theorem dX12_spread_13 : decode cX12_spread 13 = .ok (.iload_n 1, 1) := by decide +kernel
theorem dX12_spread_14 : decode cX12_spread 14 = .ok (.ifCond .lt 11, 3) := by decide +kernel
theorem dX12_spread_17 : decode cX12_spread 17 = .ok (.iload_n 2, 1) := by decide +kernel
theorem dX12_spread_18 : decode cX12_spread 18 = .ok (.ifCond .lt 7, 3) := by decide +kernel
theorem dX12_spread_21 : decode cX12_spread 21 = .ok (.iconst 1, 1) := by decide +kernel
theorem dX12_spread_22 : decode cX12_spread 22 = .ok (.goto 4, 3) := by decide +kernel
theorem dX12_spread_25 : decode cX12_spread 25 = .ok (.iconst 0, 1) := by decide +kernel
theorem dX12_spread_26 : decode cX12_spread 26 = .ok (.invokevirtual 142, 3) := by decide +kernel
theorem dX12_spread_29 : decode cX12_spread 29 = .ok (.ifCond .eq 19, 3) := by decide +kernel
theorem dX12_spread_32 : decode cX12_spread 32 = .ok (.aload_n 0, 1) := by decide +kernel
theorem dX12_spread_33 : decode cX12_spread 33 = .ok (.iload_n 2, 1) := by decide +kernel
theorem dX12_spread_34 : decode cX12_spread 34 = .ok (.iconst 3, 1) := by decide +kernel
theorem dX12_spread_35 : decode cX12_spread 35 = .ok (.invokevirtual 55, 3) := by decide +kernel
theorem dX12_spread_38 : decode cX12_spread 38 = .ok (.aload_n 0, 1) := by decide +kernel
theorem dX12_spread_39 : decode cX12_spread 39 = .ok (.iload_n 1, 1) := by decide +kernel
theorem dX12_spread_40 : decode cX12_spread 40 = .ok (.iconst 3, 1) := by decide +kernel
theorem dX12_spread_41 : decode cX12_spread 41 = .ok (.invokevirtual 55, 3) := by decide +kernel
theorem dX12_spread_44 : decode cX12_spread 44 = .ok (.isub, 1) := by decide +kernel
theorem dX12_spread_45 : decode cX12_spread 45 = .ok (.goto 4, 3) := by decide +kernel
theorem dX12_spread_48 : decode cX12_spread 48 = .ok (.iconst 0, 1) := by decide +kernel
theorem dX12_spread_49 : decode cX12_spread 49 = .ok (.ireturn, 1) := by decide +kernel
theorem dX12_spreadBySums_0 : decode cX12_spreadBySums 0 = .ok (.aload_n 0, 1) := by decide +kernel
theorem dX12_spreadBySums_1 : decode cX12_spreadBySums 1 = .ok (.invokevirtual 155, 3) := by decide +kernel
theorem dX12_spreadBySums_4 : decode cX12_spreadBySums 4 = .ok (.ireturn, 1) := by decide +kernel
theorem dX12_sum_0 : decode cX12_sum 0 = .ok (.iconst 0, 1) := by decide +kernel
theorem dX12_sum_1 : decode cX12_sum 1 = .ok (.istore 4, 2) := by decide +kernel
theorem dX12_sum_3 : decode cX12_sum 3 = .ok (.iconst 0, 1) := by decide +kernel
theorem dX12_sum_4 : decode cX12_sum 4 = .ok (.istore 5, 2) := by decide +kernel
theorem dX12_sum_6 : decode cX12_sum 6 = .ok (.iload 5, 2) := by decide +kernel
theorem dX12_sum_8 : decode cX12_sum 8 = .ok (.aload_n 0, 1) := by decide +kernel
theorem dX12_sum_9 : decode cX12_sum 9 = .ok (.getfield 9, 3) := by decide +kernel
theorem dX12_sum_12 : decode cX12_sum 12 = .ok (.iconst 1, 1) := by decide +kernel
theorem dX12_sum_13 : decode cX12_sum 13 = .ok (.iaload, 1) := by decide +kernel
theorem dX12_sum_14 : decode cX12_sum 14 = .ok (.if_icmp .ge 50, 3) := by decide +kernel
theorem dX12_sum_17 : decode cX12_sum 17 = .ok (.iload 4, 2) := by decide +kernel
theorem dX12_sum_19 : decode cX12_sum 19 = .ok (.aload_n 0, 1) := by decide +kernel
theorem dX12_sum_20 : decode cX12_sum 20 = .ok (.iload 5, 2) := by decide +kernel
theorem dX12_sum_22 : decode cX12_sum 22 = .ok (.invokevirtual 62, 3) := by decide +kernel
theorem dX12_sum_25 : decode cX12_sum 25 = .ok (.iload_n 1, 1) := by decide +kernel
theorem dX12_sum_26 : decode cX12_sum 26 = .ok (.if_icmp .ne 28, 3) := by decide +kernel
theorem dX12_sum_29 : decode cX12_sum 29 = .ok (.aload_n 0, 1) := by decide +kernel
theorem dX12_sum_30 : decode cX12_sum 30 = .ok (.iload 5, 2) := by decide +kernel
theorem dX12_sum_32 : decode cX12_sum 32 = .ok (.iconst 3, 1) := by decide +kernel
theorem dX12_sum_33 : decode cX12_sum 33 = .ok (.invokevirtual 55, 3) := by decide +kernel
theorem dX12_sum_36 : decode cX12_sum 36 = .ok (.iload_n 2, 1) := by decide +kernel
theorem dX12_sum_37 : decode cX12_sum 37 = .ok (.iload_n 3, 1) := by decide +kernel
theorem dX12_sum_38 : decode cX12_sum 38 = .ok (.invokestatic 51, 3) := by decide +kernel
theorem dX12_sum_41 : decode cX12_sum 41 = .ok (.ifCond .eq 13, 3) := by decide +kernel
theorem dX12_sum_44 : decode cX12_sum 44 = .ok (.aload_n 0, 1) := by decide +kernel
theorem dX12_sum_45 : decode cX12_sum 45 = .ok (.iload 5, 2) := by decide +kernel
theorem dX12_sum_47 : decode cX12_sum 47 = .ok (.iconst 4, 1) := by decide +kernel
theorem dX12_sum_48 : decode cX12_sum 48 = .ok (.invokevirtual 55, 3) := by decide +kernel
theorem dX12_sum_51 : decode cX12_sum 51 = .ok (.goto 4, 3) := by decide +kernel
theorem dX12_sum_54 : decode cX12_sum 54 = .ok (.iconst 0, 1) := by decide +kernel
theorem dX12_sum_55 : decode cX12_sum 55 = .ok (.iadd, 1) := by decide +kernel
theorem dX12_sum_56 : decode cX12_sum 56 = .ok (.istore 4, 2) := by decide +kernel
theorem dX12_sum_58 : decode cX12_sum 58 = .ok (.iinc 5 1, 3) := by decide +kernel
theorem dX12_sum_61 : decode cX12_sum 61 = .ok (.goto (-55), 3) := by decide +kernel
theorem dX12_sum_64 : decode cX12_sum 64 = .ok (.iload 4, 2) := by decide +kernel
theorem dX12_sum_66 : decode cX12_sum 66 = .ok (.ireturn, 1) := by decide +kernel
theorem dX12_buyingAt_0 : decode cX12_buyingAt 0 = .ok (.aload_n 0, 1) := by decide +kernel
theorem dX12_buyingAt_1 : decode cX12_buyingAt 1 = .ok (.iload_n 1, 1) := by decide +kernel
theorem dX12_buyingAt_2 : decode cX12_buyingAt 2 = .ok (.iconst 1, 1) := by decide +kernel
theorem dX12_buyingAt_3 : decode cX12_buyingAt 3 = .ok (.bipush 99, 2) := by decide +kernel
theorem dX12_buyingAt_5 : decode cX12_buyingAt 5 = .ok (.invokestatic 51, 3) := by decide +kernel
theorem dX12_buyingAt_8 : decode cX12_buyingAt 8 = .ok (.invokevirtual 142, 3) := by decide +kernel
theorem dX12_buyingAt_11 : decode cX12_buyingAt 11 = .ok (.ifCond .eq 13, 3) := by decide +kernel
theorem dX12_buyingAt_14 : decode cX12_buyingAt 14 = .ok (.aload_n 0, 1) := by decide +kernel
theorem dX12_buyingAt_15 : decode cX12_buyingAt 15 = .ok (.iconst 1, 1) := by decide +kernel
theorem dX12_buyingAt_16 : decode cX12_buyingAt 16 = .ok (.iload_n 1, 1) := by decide +kernel
theorem dX12_buyingAt_17 : decode cX12_buyingAt 17 = .ok (.iload_n 1, 1) := by decide +kernel
theorem dX12_buyingAt_18 : decode cX12_buyingAt 18 = .ok (.invokevirtual 158, 3) := by decide +kernel
theorem dX12_buyingAt_21 : decode cX12_buyingAt 21 = .ok (.goto 4, 3) := by decide +kernel
theorem dX12_buyingAt_24 : decode cX12_buyingAt 24 = .ok (.iconst 0, 1) := by decide +kernel
theorem dX12_buyingAt_25 : decode cX12_buyingAt 25 = .ok (.ireturn, 1) := by decide +kernel
theorem dX12_sellingAt_0 : decode cX12_sellingAt 0 = .ok (.aload_n 0, 1) := by decide +kernel
theorem dX12_sellingAt_1 : decode cX12_sellingAt 1 = .ok (.iload_n 1, 1) := by decide +kernel
theorem dX12_sellingAt_2 : decode cX12_sellingAt 2 = .ok (.iconst 1, 1) := by decide +kernel
theorem dX12_sellingAt_3 : decode cX12_sellingAt 3 = .ok (.bipush 99, 2) := by decide +kernel
theorem dX12_sellingAt_5 : decode cX12_sellingAt 5 = .ok (.invokestatic 51, 3) := by decide +kernel
theorem dX12_sellingAt_8 : decode cX12_sellingAt 8 = .ok (.invokevirtual 142, 3) := by decide +kernel
theorem dX12_sellingAt_11 : decode cX12_sellingAt 11 = .ok (.ifCond .eq 13, 3) := by decide +kernel
theorem dX12_sellingAt_14 : decode cX12_sellingAt 14 = .ok (.aload_n 0, 1) := by decide +kernel
theorem dX12_sellingAt_15 : decode cX12_sellingAt 15 = .ok (.iconst 0, 1) := by decide +kernel
theorem dX12_sellingAt_16 : decode cX12_sellingAt 16 = .ok (.iload_n 1, 1) := by decide +kernel
theorem dX12_sellingAt_17 : decode cX12_sellingAt 17 = .ok (.iload_n 1, 1) := by decide +kernel
theorem dX12_sellingAt_18 : decode cX12_sellingAt 18 = .ok (.invokevirtual 158, 3) := by decide +kernel
theorem dX12_sellingAt_21 : decode cX12_sellingAt 21 = .ok (.goto 4, 3) := by decide +kernel
theorem dX12_sellingAt_24 : decode cX12_sellingAt 24 = .ok (.iconst 0, 1) := by decide +kernel
theorem dX12_sellingAt_25 : decode cX12_sellingAt 25 = .ok (.ireturn, 1) := by decide +kernel
theorem dX12_lastPrice_0 : decode cX12_lastPrice 0 = .ok (.aload_n 0, 1) := by decide +kernel
theorem dX12_lastPrice_1 : decode cX12_lastPrice 1 = .ok (.aload_n 0, 1) := by decide +kernel
theorem dX12_lastPrice_2 : decode cX12_lastPrice 2 = .ok (.getfield 9, 3) := by decide +kernel
theorem dX12_lastPrice_5 : decode cX12_lastPrice 5 = .ok (.bipush 6, 2) := by decide +kernel
theorem dX12_lastPrice_7 : decode cX12_lastPrice 7 = .ok (.iaload, 1) := by decide +kernel
theorem dX12_lastPrice_8 : decode cX12_lastPrice 8 = .ok (.ifCond .le 7, 3) := by decide +kernel
theorem dX12_lastPrice_11 : decode cX12_lastPrice 11 = .ok (.iconst 1, 1) := by decide +kernel
theorem dX12_lastPrice_12 : decode cX12_lastPrice 12 = .ok (.goto 4, 3) := by decide +kernel
theorem dX12_lastPrice_15 : decode cX12_lastPrice 15 = .ok (.iconst 0, 1) := by decide +kernel
theorem dX12_lastPrice_16 : decode cX12_lastPrice 16 = .ok (.invokevirtual 142, 3) := by decide +kernel
theorem dX12_lastPrice_19 : decode cX12_lastPrice 19 = .ok (.ifCond .eq 12, 3) := by decide +kernel
theorem dX12_lastPrice_22 : decode cX12_lastPrice 22 = .ok (.aload_n 0, 1) := by decide +kernel
theorem dX12_lastPrice_23 : decode cX12_lastPrice 23 = .ok (.getfield 9, 3) := by decide +kernel
theorem dX12_lastPrice_26 : decode cX12_lastPrice 26 = .ok (.iconst 5, 1) := by decide +kernel
theorem dX12_lastPrice_27 : decode cX12_lastPrice 27 = .ok (.iaload, 1) := by decide +kernel
theorem dX12_lastPrice_28 : decode cX12_lastPrice 28 = .ok (.goto 4, 3) := by decide +kernel
theorem dX12_lastPrice_31 : decode cX12_lastPrice 31 = .ok (.iconst 0, 1) := by decide +kernel
theorem dX12_lastPrice_32 : decode cX12_lastPrice 32 = .ok (.ireturn, 1) := by decide +kernel
theorem dX12_tradeCount_0 : decode cX12_tradeCount 0 = .ok (.aload_n 0, 1) := by decide +kernel
theorem dX12_tradeCount_1 : decode cX12_tradeCount 1 = .ok (.iconst 0, 1) := by decide +kernel
theorem dX12_tradeCount_2 : decode cX12_tradeCount 2 = .ok (.putfield 39, 3) := by decide +kernel
theorem dX12_tradeCount_5 : decode cX12_tradeCount 5 = .ok (.aload_n 0, 1) := by decide +kernel
theorem dX12_tradeCount_6 : decode cX12_tradeCount 6 = .ok (.getfield 9, 3) := by decide +kernel
theorem dX12_tradeCount_9 : decode cX12_tradeCount 9 = .ok (.bipush 6, 2) := by decide +kernel
theorem dX12_tradeCount_11 : decode cX12_tradeCount 11 = .ok (.iaload, 1) := by decide +kernel
theorem dX12_tradeCount_12 : decode cX12_tradeCount 12 = .ok (.ireturn, 1) := by decide +kernel
theorem dX12_tradedQuantity_0 : decode cX12_tradedQuantity 0 = .ok (.aload_n 0, 1) := by decide +kernel
theorem dX12_tradedQuantity_1 : decode cX12_tradedQuantity 1 = .ok (.iconst 0, 1) := by decide +kernel
theorem dX12_tradedQuantity_2 : decode cX12_tradedQuantity 2 = .ok (.putfield 39, 3) := by decide +kernel
theorem dX12_tradedQuantity_5 : decode cX12_tradedQuantity 5 = .ok (.aload_n 0, 1) := by decide +kernel
theorem dX12_tradedQuantity_6 : decode cX12_tradedQuantity 6 = .ok (.getfield 9, 3) := by decide +kernel
theorem dX12_tradedQuantity_9 : decode cX12_tradedQuantity 9 = .ok (.bipush 7, 2) := by decide +kernel
theorem dX12_tradedQuantity_11 : decode cX12_tradedQuantity 11 = .ok (.iaload, 1) := by decide +kernel
theorem dX12_tradedQuantity_12 : decode cX12_tradedQuantity 12 = .ok (.ireturn, 1) := by decide +kernel
theorem dX12_turnover_0 : decode cX12_turnover 0 = .ok (.aload_n 0, 1) := by decide +kernel
theorem dX12_turnover_1 : decode cX12_turnover 1 = .ok (.iconst 0, 1) := by decide +kernel
theorem dX12_turnover_2 : decode cX12_turnover 2 = .ok (.putfield 39, 3) := by decide +kernel
theorem dX12_turnover_5 : decode cX12_turnover 5 = .ok (.aload_n 0, 1) := by decide +kernel
theorem dX12_turnover_6 : decode cX12_turnover 6 = .ok (.getfield 9, 3) := by decide +kernel
theorem dX12_turnover_9 : decode cX12_turnover 9 = .ok (.bipush 8, 2) := by decide +kernel
theorem dX12_turnover_11 : decode cX12_turnover 11 = .ok (.iaload, 1) := by decide +kernel
theorem dX12_turnover_12 : decode cX12_turnover 12 = .ok (.i2l, 1) := by decide +kernel
theorem dX12_turnover_13 : decode cX12_turnover 13 = .ok (.lreturn, 1) := by decide +kernel
theorem dX12_meanPrice_0 : decode cX12_meanPrice 0 = .ok (.aload_n 0, 1) := by decide +kernel
theorem dX12_meanPrice_1 : decode cX12_meanPrice 1 = .ok (.aload_n 0, 1) := by decide +kernel
theorem dX12_meanPrice_2 : decode cX12_meanPrice 2 = .ok (.getfield 9, 3) := by decide +kernel
theorem dX12_meanPrice_5 : decode cX12_meanPrice 5 = .ok (.bipush 6, 2) := by decide +kernel
theorem dX12_meanPrice_7 : decode cX12_meanPrice 7 = .ok (.iaload, 1) := by decide +kernel
theorem dX12_meanPrice_8 : decode cX12_meanPrice 8 = .ok (.ifCond .le 7, 3) := by decide +kernel
theorem dX12_meanPrice_11 : decode cX12_meanPrice 11 = .ok (.iconst 1, 1) := by decide +kernel
theorem dX12_meanPrice_12 : decode cX12_meanPrice 12 = .ok (.goto 4, 3) := by decide +kernel
theorem dX12_meanPrice_15 : decode cX12_meanPrice 15 = .ok (.iconst 0, 1) := by decide +kernel
theorem dX12_meanPrice_16 : decode cX12_meanPrice 16 = .ok (.invokevirtual 142, 3) := by decide +kernel
theorem dX12_meanPrice_19 : decode cX12_meanPrice 19 = .ok (.ifCond .eq 23, 3) := by decide +kernel
theorem dX12_meanPrice_22 : decode cX12_meanPrice 22 = .ok (.aload_n 0, 1) := by decide +kernel
theorem dX12_meanPrice_23 : decode cX12_meanPrice 23 = .ok (.getfield 9, 3) := by decide +kernel
theorem dX12_meanPrice_26 : decode cX12_meanPrice 26 = .ok (.bipush 8, 2) := by decide +kernel
theorem dX12_meanPrice_28 : decode cX12_meanPrice 28 = .ok (.iaload, 1) := by decide +kernel
theorem dX12_meanPrice_29 : decode cX12_meanPrice 29 = .ok (.i2d, 1) := by decide +kernel
theorem dX12_meanPrice_30 : decode cX12_meanPrice 30 = .ok (.aload_n 0, 1) := by decide +kernel
theorem dX12_meanPrice_31 : decode cX12_meanPrice 31 = .ok (.getfield 9, 3) := by decide +kernel
theorem dX12_meanPrice_34 : decode cX12_meanPrice 34 = .ok (.bipush 7, 2) := by decide +kernel
theorem dX12_meanPrice_36 : decode cX12_meanPrice 36 = .ok (.iaload, 1) := by decide +kernel
theorem dX12_meanPrice_37 : decode cX12_meanPrice 37 = .ok (.i2d, 1) := by decide +kernel
theorem dX12_meanPrice_38 : decode cX12_meanPrice 38 = .ok (.ddiv, 1) := by decide +kernel
theorem dX12_meanPrice_39 : decode cX12_meanPrice 39 = .ok (.goto 4, 3) := by decide +kernel
theorem dX12_meanPrice_42 : decode cX12_meanPrice 42 = .ok (.dconst 0, 1) := by decide +kernel
theorem dX12_meanPrice_43 : decode cX12_meanPrice 43 = .ok (.dreturn, 1) := by decide +kernel
theorem dX12_buyingShare_0 : decode cX12_buyingShare 0 = .ok (.iconst 0, 1) := by decide +kernel
theorem dX12_buyingShare_1 : decode cX12_buyingShare 1 = .ok (.istore_n 1, 1) := by decide +kernel
theorem dX12_buyingShare_2 : decode cX12_buyingShare 2 = .ok (.iconst 0, 1) := by decide +kernel
theorem dX12_buyingShare_3 : decode cX12_buyingShare 3 = .ok (.istore_n 2, 1) := by decide +kernel
theorem dX12_buyingShare_4 : decode cX12_buyingShare 4 = .ok (.iload_n 2, 1) := by decide +kernel
theorem dX12_buyingShare_5 : decode cX12_buyingShare 5 = .ok (.aload_n 0, 1) := by decide +kernel
theorem dX12_buyingShare_6 : decode cX12_buyingShare 6 = .ok (.getfield 9, 3) := by decide +kernel
theorem dX12_buyingShare_9 : decode cX12_buyingShare 9 = .ok (.iconst 1, 1) := by decide +kernel
theorem dX12_buyingShare_10 : decode cX12_buyingShare 10 = .ok (.iaload, 1) := by decide +kernel
theorem dX12_buyingShare_11 : decode cX12_buyingShare 11 = .ok (.if_icmp .ge 18, 3) := by decide +kernel
theorem dX12_buyingShare_14 : decode cX12_buyingShare 14 = .ok (.iload_n 1, 1) := by decide +kernel
theorem dX12_buyingShare_15 : decode cX12_buyingShare 15 = .ok (.aload_n 0, 1) := by decide +kernel
theorem dX12_buyingShare_16 : decode cX12_buyingShare 16 = .ok (.iload_n 2, 1) := by decide +kernel
theorem dX12_buyingShare_17 : decode cX12_buyingShare 17 = .ok (.iconst 2, 1) := by decide +kernel
theorem dX12_buyingShare_18 : decode cX12_buyingShare 18 = .ok (.invokevirtual 55, 3) := by decide +kernel
theorem dX12_buyingShare_21 : decode cX12_buyingShare 21 = .ok (.iadd, 1) := by decide +kernel
theorem dX12_buyingShare_22 : decode cX12_buyingShare 22 = .ok (.istore_n 1, 1) := by decide +kernel
theorem dX12_buyingShare_23 : decode cX12_buyingShare 23 = .ok (.iinc 2 1, 3) := by decide +kernel
theorem dX12_buyingShare_26 : decode cX12_buyingShare 26 = .ok (.goto (-22), 3) := by decide +kernel
theorem dX12_buyingShare_29 : decode cX12_buyingShare 29 = .ok (.aload_n 0, 1) := by decide +kernel
theorem dX12_buyingShare_30 : decode cX12_buyingShare 30 = .ok (.aload_n 0, 1) := by decide +kernel
theorem dX12_buyingShare_31 : decode cX12_buyingShare 31 = .ok (.getfield 9, 3) := by decide +kernel
theorem dX12_buyingShare_34 : decode cX12_buyingShare 34 = .ok (.iconst 1, 1) := by decide +kernel
theorem dX12_buyingShare_35 : decode cX12_buyingShare 35 = .ok (.iaload, 1) := by decide +kernel
theorem dX12_buyingShare_36 : decode cX12_buyingShare 36 = .ok (.ifCond .le 7, 3) := by decide +kernel
theorem dX12_buyingShare_39 : decode cX12_buyingShare 39 = .ok (.iconst 1, 1) := by decide +kernel
theorem dX12_buyingShare_40 : decode cX12_buyingShare 40 = .ok (.goto 4, 3) := by decide +kernel
theorem dX12_buyingShare_43 : decode cX12_buyingShare 43 = .ok (.iconst 0, 1) := by decide +kernel
theorem dX12_buyingShare_44 : decode cX12_buyingShare 44 = .ok (.invokevirtual 142, 3) := by decide +kernel
theorem dX12_buyingShare_47 : decode cX12_buyingShare 47 = .ok (.ifCond .eq 16, 3) := by decide +kernel
theorem dX12_buyingShare_50 : decode cX12_buyingShare 50 = .ok (.iload_n 1, 1) := by decide +kernel
theorem dX12_buyingShare_51 : decode cX12_buyingShare 51 = .ok (.i2f, 1) := by decide +kernel
theorem dX12_buyingShare_52 : decode cX12_buyingShare 52 = .ok (.aload_n 0, 1) := by decide +kernel
theorem dX12_buyingShare_53 : decode cX12_buyingShare 53 = .ok (.getfield 9, 3) := by decide +kernel
theorem dX12_buyingShare_56 : decode cX12_buyingShare 56 = .ok (.iconst 1, 1) := by decide +kernel
theorem dX12_buyingShare_57 : decode cX12_buyingShare 57 = .ok (.iaload, 1) := by decide +kernel
theorem dX12_buyingShare_58 : decode cX12_buyingShare 58 = .ok (.i2f, 1) := by decide +kernel
theorem dX12_buyingShare_59 : decode cX12_buyingShare 59 = .ok (.fdiv, 1) := by decide +kernel
theorem dX12_buyingShare_60 : decode cX12_buyingShare 60 = .ok (.goto 4, 3) := by decide +kernel
theorem dX12_buyingShare_63 : decode cX12_buyingShare 63 = .ok (.fconst 0, 1) := by decide +kernel
theorem dX12_buyingShare_64 : decode cX12_buyingShare 64 = .ok (.freturn, 1) := by decide +kernel
theorem dX12_isPoolOpen_0 : decode cX12_isPoolOpen 0 = .ok (.aload_n 0, 1) := by decide +kernel
theorem dX12_isPoolOpen_1 : decode cX12_isPoolOpen 1 = .ok (.iconst 0, 1) := by decide +kernel
theorem dX12_isPoolOpen_2 : decode cX12_isPoolOpen 2 = .ok (.putfield 39, 3) := by decide +kernel
theorem dX12_isPoolOpen_5 : decode cX12_isPoolOpen 5 = .ok (.aload_n 0, 1) := by decide +kernel
theorem dX12_isPoolOpen_6 : decode cX12_isPoolOpen 6 = .ok (.getfield 9, 3) := by decide +kernel
theorem dX12_isPoolOpen_9 : decode cX12_isPoolOpen 9 = .ok (.iconst 4, 1) := by decide +kernel
theorem dX12_isPoolOpen_10 : decode cX12_isPoolOpen 10 = .ok (.iaload, 1) := by decide +kernel
theorem dX12_isPoolOpen_11 : decode cX12_isPoolOpen 11 = .ok (.iconst 1, 1) := by decide +kernel
theorem dX12_isPoolOpen_12 : decode cX12_isPoolOpen 12 = .ok (.if_icmp .ne 7, 3) := by decide +kernel
theorem dX12_isPoolOpen_15 : decode cX12_isPoolOpen 15 = .ok (.iconst 1, 1) := by decide +kernel
theorem dX12_isPoolOpen_16 : decode cX12_isPoolOpen 16 = .ok (.goto 4, 3) := by decide +kernel
theorem dX12_isPoolOpen_19 : decode cX12_isPoolOpen 19 = .ok (.iconst 0, 1) := by decide +kernel
theorem dX12_isPoolOpen_20 : decode cX12_isPoolOpen 20 = .ok (.ireturn, 1) := by decide +kernel
theorem dX12_volume_0 : decode cX12_volume 0 = .ok (.aload_n 0, 1) := by decide +kernel
theorem dX12_volume_1 : decode cX12_volume 1 = .ok (.iconst 1, 1) := by decide +kernel
theorem dX12_volume_2 : decode cX12_volume 2 = .ok (.iload_n 1, 1) := by decide +kernel
theorem dX12_volume_3 : decode cX12_volume 3 = .ok (.bipush 99, 2) := by decide +kernel
theorem dX12_volume_5 : decode cX12_volume 5 = .ok (.invokevirtual 158, 3) := by decide +kernel
theorem dX12_volume_8 : decode cX12_volume 8 = .ok (.aload_n 0, 1) := by decide +kernel
theorem dX12_volume_9 : decode cX12_volume 9 = .ok (.iconst 0, 1) := by decide +kernel
theorem dX12_volume_10 : decode cX12_volume 10 = .ok (.iconst 1, 1) := by decide +kernel
theorem dX12_volume_11 : decode cX12_volume 11 = .ok (.iload_n 1, 1) := by decide +kernel
theorem dX12_volume_12 : decode cX12_volume 12 = .ok (.invokevirtual 158, 3) := by decide +kernel
theorem dX12_volume_15 : decode cX12_volume 15 = .ok (.invokestatic 74, 3) := by decide +kernel
theorem dX12_volume_18 : decode cX12_volume 18 = .ok (.ireturn, 1) := by decide +kernel
theorem dX12_pool_0 : decode cX12_pool 0 = .ok (.iconst (-1), 1) := by decide +kernel
theorem dX12_pool_1 : decode cX12_pool 1 = .ok (.istore_n 1, 1) := by decide +kernel
theorem dX12_pool_2 : decode cX12_pool 2 = .ok (.iconst 0, 1) := by decide +kernel
theorem dX12_pool_3 : decode cX12_pool 3 = .ok (.istore_n 2, 1) := by decide +kernel
theorem dX12_pool_4 : decode cX12_pool 4 = .ok (.iconst 0, 1) := by decide +kernel
theorem dX12_pool_5 : decode cX12_pool 5 = .ok (.istore_n 3, 1) := by decide +kernel
theorem dX12_pool_6 : decode cX12_pool 6 = .ok (.iconst 1, 1) := by decide +kernel
theorem dX12_pool_7 : decode cX12_pool 7 = .ok (.istore 4, 2) := by decide +kernel
theorem dX12_pool_9 : decode cX12_pool 9 = .ok (.iload 4, 2) := by decide +kernel
theorem dX12_pool_11 : decode cX12_pool 11 = .ok (.bipush 99, 2) := by decide +kernel
theorem dX12_pool_13 : decode cX12_pool 13 = .ok (.if_icmp .gt 83, 3) := by decide +kernel
theorem dX12_pool_16 : decode cX12_pool 16 = .ok (.aload_n 0, 1) := by decide +kernel
theorem dX12_pool_17 : decode cX12_pool 17 = .ok (.iconst 1, 1) := by decide +kernel
theorem dX12_pool_18 : decode cX12_pool 18 = .ok (.iload 4, 2) := by decide +kernel
theorem dX12_pool_20 : decode cX12_pool 20 = .ok (.bipush 99, 2) := by decide +kernel
theorem dX12_pool_22 : decode cX12_pool 22 = .ok (.invokevirtual 158, 3) := by decide +kernel
theorem dX12_pool_25 : decode cX12_pool 25 = .ok (.istore 5, 2) := by decide +kernel
theorem dX12_pool_27 : decode cX12_pool 27 = .ok (.aload_n 0, 1) := by decide +kernel
theorem dX12_pool_28 : decode cX12_pool 28 = .ok (.iconst 0, 1) := by decide +kernel
theorem dX12_pool_29 : decode cX12_pool 29 = .ok (.iconst 1, 1) := by decide +kernel
theorem dX12_pool_30 : decode cX12_pool 30 = .ok (.iload 4, 2) := by decide +kernel
theorem dX12_pool_32 : decode cX12_pool 32 = .ok (.invokevirtual 158, 3) := by decide +kernel
theorem dX12_pool_35 : decode cX12_pool 35 = .ok (.istore 6, 2) := by decide +kernel
theorem dX12_pool_37 : decode cX12_pool 37 = .ok (.iload 5, 2) := by decide +kernel
theorem dX12_pool_39 : decode cX12_pool 39 = .ok (.iload 6, 2) := by decide +kernel
theorem dX12_pool_41 : decode cX12_pool 41 = .ok (.invokestatic 74, 3) := by decide +kernel
theorem dX12_pool_44 : decode cX12_pool 44 = .ok (.istore 7, 2) := by decide +kernel
theorem dX12_pool_46 : decode cX12_pool 46 = .ok (.iload 5, 2) := by decide +kernel
theorem dX12_pool_48 : decode cX12_pool 48 = .ok (.iload 6, 2) := by decide +kernel
theorem dX12_pool_50 : decode cX12_pool 50 = .ok (.invokestatic 136, 3) := by decide +kernel
theorem dX12_pool_53 : decode cX12_pool 53 = .ok (.iload 7, 2) := by decide +kernel
theorem dX12_pool_55 : decode cX12_pool 55 = .ok (.isub, 1) := by decide +kernel
theorem dX12_pool_56 : decode cX12_pool 56 = .ok (.istore 8, 2) := by decide +kernel
theorem dX12_pool_58 : decode cX12_pool 58 = .ok (.iload 7, 2) := by decide +kernel
theorem dX12_pool_60 : decode cX12_pool 60 = .ok (.iload_n 2, 1) := by decide +kernel
theorem dX12_pool_61 : decode cX12_pool 61 = .ok (.if_icmp .gt 20, 3) := by decide +kernel
theorem dX12_pool_64 : decode cX12_pool 64 = .ok (.iload 7, 2) := by decide +kernel
theorem dX12_pool_66 : decode cX12_pool 66 = .ok (.ifCond .le 24, 3) := by decide +kernel
theorem dX12_pool_69 : decode cX12_pool 69 = .ok (.iload 7, 2) := by decide +kernel
theorem dX12_pool_71 : decode cX12_pool 71 = .ok (.iload_n 2, 1) := by decide +kernel
theorem dX12_pool_72 : decode cX12_pool 72 = .ok (.if_icmp .ne 18, 3) := by decide +kernel
theorem dX12_pool_75 : decode cX12_pool 75 = .ok (.iload 8, 2) := by decide +kernel
theorem dX12_pool_77 : decode cX12_pool 77 = .ok (.iload_n 3, 1) := by decide +kernel
theorem dX12_pool_78 : decode cX12_pool 78 = .ok (.if_icmp .ge 12, 3) := by decide +kernel
theorem dX12_pool_81 : decode cX12_pool 81 = .ok (.iload 4, 2) := by decide +kernel
theorem dX12_pool_83 : decode cX12_pool 83 = .ok (.istore_n 1, 1) := by decide +kernel
theorem dX12_pool_84 : decode cX12_pool 84 = .ok (.iload 7, 2) := by decide +kernel
theorem dX12_pool_86 : decode cX12_pool 86 = .ok (.istore_n 2, 1) := by decide +kernel
theorem dX12_pool_87 : decode cX12_pool 87 = .ok (.iload 8, 2) := by decide +kernel
theorem dX12_pool_89 : decode cX12_pool 89 = .ok (.istore_n 3, 1) := by decide +kernel
theorem dX12_pool_90 : decode cX12_pool 90 = .ok (.iinc 4 1, 3) := by decide +kernel
theorem dX12_pool_93 : decode cX12_pool 93 = .ok (.goto (-84), 3) := by decide +kernel
theorem dX12_pool_96 : decode cX12_pool 96 = .ok (.iload_n 1, 1) := by decide +kernel
theorem dX12_pool_97 : decode cX12_pool 97 = .ok (.ireturn, 1) := by decide +kernel
theorem dX12_poolPrice_0 : decode cX12_poolPrice 0 = .ok (.aload_n 0, 1) := by decide +kernel
theorem dX12_poolPrice_1 : decode cX12_poolPrice 1 = .ok (.invokevirtual 130, 3) := by decide +kernel
theorem dX12_poolPrice_4 : decode cX12_poolPrice 4 = .ok (.istore_n 1, 1) := by decide +kernel
theorem dX12_poolPrice_5 : decode cX12_poolPrice 5 = .ok (.aload_n 0, 1) := by decide +kernel
theorem dX12_poolPrice_6 : decode cX12_poolPrice 6 = .ok (.iload_n 1, 1) := by decide +kernel
theorem dX12_poolPrice_7 : decode cX12_poolPrice 7 = .ok (.ifCond .lt 7, 3) := by decide +kernel
theorem dX12_poolPrice_10 : decode cX12_poolPrice 10 = .ok (.iconst 1, 1) := by decide +kernel
theorem dX12_poolPrice_11 : decode cX12_poolPrice 11 = .ok (.goto 4, 3) := by decide +kernel
theorem dX12_poolPrice_14 : decode cX12_poolPrice 14 = .ok (.iconst 0, 1) := by decide +kernel
theorem dX12_poolPrice_15 : decode cX12_poolPrice 15 = .ok (.invokevirtual 142, 3) := by decide +kernel
theorem dX12_poolPrice_18 : decode cX12_poolPrice 18 = .ok (.ifCond .eq 7, 3) := by decide +kernel
theorem dX12_poolPrice_21 : decode cX12_poolPrice 21 = .ok (.iload_n 1, 1) := by decide +kernel
theorem dX12_poolPrice_22 : decode cX12_poolPrice 22 = .ok (.goto 4, 3) := by decide +kernel
theorem dX12_poolPrice_25 : decode cX12_poolPrice 25 = .ok (.iconst 0, 1) := by decide +kernel
theorem dX12_poolPrice_26 : decode cX12_poolPrice 26 = .ok (.ireturn, 1) := by decide +kernel
theorem dX12_poolPriceBySums_0 : decode cX12_poolPriceBySums 0 = .ok (.aload_n 0, 1) := by decide +kernel
theorem dX12_poolPriceBySums_1 : decode cX12_poolPriceBySums 1 = .ok (.invokevirtual 162, 3) := by decide +kernel
theorem dX12_poolPriceBySums_4 : decode cX12_poolPriceBySums 4 = .ok (.ireturn, 1) := by decide +kernel
theorem dX12_volumeAt_0 : decode cX12_volumeAt 0 = .ok (.aload_n 0, 1) := by decide +kernel
theorem dX12_volumeAt_1 : decode cX12_volumeAt 1 = .ok (.iload_n 1, 1) := by decide +kernel
theorem dX12_volumeAt_2 : decode cX12_volumeAt 2 = .ok (.iconst 1, 1) := by decide +kernel
theorem dX12_volumeAt_3 : decode cX12_volumeAt 3 = .ok (.bipush 99, 2) := by decide +kernel
theorem dX12_volumeAt_5 : decode cX12_volumeAt 5 = .ok (.invokestatic 51, 3) := by decide +kernel
theorem dX12_volumeAt_8 : decode cX12_volumeAt 8 = .ok (.invokevirtual 142, 3) := by decide +kernel
theorem dX12_volumeAt_11 : decode cX12_volumeAt 11 = .ok (.ifCond .eq 11, 3) := by decide +kernel
theorem dX12_volumeAt_14 : decode cX12_volumeAt 14 = .ok (.aload_n 0, 1) := by decide +kernel
theorem dX12_volumeAt_15 : decode cX12_volumeAt 15 = .ok (.iload_n 1, 1) := by decide +kernel
theorem dX12_volumeAt_16 : decode cX12_volumeAt 16 = .ok (.invokevirtual 133, 3) := by decide +kernel
theorem dX12_volumeAt_19 : decode cX12_volumeAt 19 = .ok (.goto 4, 3) := by decide +kernel
theorem dX12_volumeAt_22 : decode cX12_volumeAt 22 = .ok (.iconst 0, 1) := by decide +kernel
theorem dX12_volumeAt_23 : decode cX12_volumeAt 23 = .ok (.ireturn, 1) := by decide +kernel
theorem dX12_time_0 : decode cX12_time 0 = .ok (.aload_n 0, 1) := by decide +kernel
theorem dX12_time_1 : decode cX12_time 1 = .ok (.iconst 0, 1) := by decide +kernel
theorem dX12_time_2 : decode cX12_time 2 = .ok (.putfield 39, 3) := by decide +kernel
theorem dX12_time_5 : decode cX12_time 5 = .ok (.aload_n 0, 1) := by decide +kernel
theorem dX12_time_6 : decode cX12_time 6 = .ok (.getfield 9, 3) := by decide +kernel
theorem dX12_time_9 : decode cX12_time 9 = .ok (.iconst 3, 1) := by decide +kernel
theorem dX12_time_10 : decode cX12_time 10 = .ok (.iaload, 1) := by decide +kernel
theorem dX12_time_11 : decode cX12_time 11 = .ok (.ireturn, 1) := by decide +kernel
theorem dX12_isConsistent_0 : decode cX12_isConsistent 0 = .ok (.aload_n 0, 1) := by decide +kernel
theorem dX12_isConsistent_1 : decode cX12_isConsistent 1 = .ok (.iconst 0, 1) := by decide +kernel
theorem dX12_isConsistent_2 : decode cX12_isConsistent 2 = .ok (.putfield 39, 3) := by decide +kernel
theorem dX12_isConsistent_5 : decode cX12_isConsistent 5 = .ok (.iconst 1, 1) := by decide +kernel
theorem dX12_isConsistent_6 : decode cX12_isConsistent 6 = .ok (.ireturn, 1) := by decide +kernel
theorem dX12_says_0 : decode cX12_says 0 = .ok (.aload_n 0, 1) := by decide +kernel
theorem dX12_says_1 : decode cX12_says 1 = .ok (.getfield 22, 3) := by decide +kernel
theorem dX12_says_4 : decode cX12_says 4 = .ok (.aload_n 0, 1) := by decide +kernel
theorem dX12_says_5 : decode cX12_says 5 = .ok (.getfield 165, 3) := by decide +kernel
theorem dX12_says_8 : decode cX12_says 8 = .ok (.iload_n 1, 1) := by decide +kernel
theorem dX12_says_9 : decode cX12_says 9 = .ok (.castore, 1) := by decide +kernel
theorem dX12_says_10 : decode cX12_says 10 = .ok (.aload_n 0, 1) := by decide +kernel
theorem dX12_says_11 : decode cX12_says 11 = .ok (.dup, 1) := by decide +kernel
theorem dX12_says_12 : decode cX12_says 12 = .ok (.getfield 165, 3) := by decide +kernel
theorem dX12_says_15 : decode cX12_says 15 = .ok (.iconst 1, 1) := by decide +kernel
theorem dX12_says_16 : decode cX12_says 16 = .ok (.iadd, 1) := by decide +kernel
theorem dX12_says_17 : decode cX12_says 17 = .ok (.putfield 165, 3) := by decide +kernel
theorem dX12_says_20 : decode cX12_says 20 = .ok (.return_, 1) := by decide +kernel
theorem dX12_saysNumber_0 : decode cX12_saysNumber 0 = .ok (.iload_n 1, 1) := by decide +kernel
theorem dX12_saysNumber_1 : decode cX12_saysNumber 1 = .ok (.bipush 9, 2) := by decide +kernel
theorem dX12_saysNumber_3 : decode cX12_saysNumber 3 = .ok (.if_icmp .le 11, 3) := by decide +kernel
theorem dX12_saysNumber_6 : decode cX12_saysNumber 6 = .ok (.aload_n 0, 1) := by decide +kernel
theorem dX12_saysNumber_7 : decode cX12_saysNumber 7 = .ok (.iload_n 1, 1) := by decide +kernel
theorem dX12_saysNumber_8 : decode cX12_saysNumber 8 = .ok (.bipush 10, 2) := by decide +kernel
theorem dX12_saysNumber_10 : decode cX12_saysNumber 10 = .ok (.idiv, 1) := by decide +kernel
theorem dX12_saysNumber_11 : decode cX12_saysNumber 11 = .ok (.invokevirtual 168, 3) := by decide +kernel
theorem dX12_saysNumber_14 : decode cX12_saysNumber 14 = .ok (.aload_n 0, 1) := by decide +kernel
theorem dX12_saysNumber_15 : decode cX12_saysNumber 15 = .ok (.bipush 48, 2) := by decide +kernel
theorem dX12_saysNumber_17 : decode cX12_saysNumber 17 = .ok (.iload_n 1, 1) := by decide +kernel
theorem dX12_saysNumber_18 : decode cX12_saysNumber 18 = .ok (.bipush 10, 2) := by decide +kernel
theorem dX12_saysNumber_20 : decode cX12_saysNumber 20 = .ok (.irem, 1) := by decide +kernel
theorem dX12_saysNumber_21 : decode cX12_saysNumber 21 = .ok (.iadd, 1) := by decide +kernel
theorem dX12_saysNumber_22 : decode cX12_saysNumber 22 = .ok (.i2c, 1) := by decide +kernel
theorem dX12_saysNumber_23 : decode cX12_saysNumber 23 = .ok (.invokevirtual 171, 3) := by decide +kernel
theorem dX12_saysNumber_26 : decode cX12_saysNumber 26 = .ok (.return_, 1) := by decide +kernel
theorem dX12_saysAmount_0 : decode cX12_saysAmount 0 = .ok (.aload_n 0, 1) := by decide +kernel
theorem dX12_saysAmount_1 : decode cX12_saysAmount 1 = .ok (.iload_n 1, 1) := by decide +kernel
theorem dX12_saysAmount_2 : decode cX12_saysAmount 2 = .ok (.invokevirtual 168, 3) := by decide +kernel
theorem dX12_saysAmount_5 : decode cX12_saysAmount 5 = .ok (.aload_n 0, 1) := by decide +kernel
theorem dX12_saysAmount_6 : decode cX12_saysAmount 6 = .ok (.bipush 120, 2) := by decide +kernel
theorem dX12_saysAmount_8 : decode cX12_saysAmount 8 = .ok (.invokevirtual 171, 3) := by decide +kernel
theorem dX12_saysAmount_11 : decode cX12_saysAmount 11 = .ok (.aload_n 0, 1) := by decide +kernel
theorem dX12_saysAmount_12 : decode cX12_saysAmount 12 = .ok (.iload_n 2, 1) := by decide +kernel
theorem dX12_saysAmount_13 : decode cX12_saysAmount 13 = .ok (.invokevirtual 168, 3) := by decide +kernel
theorem dX12_saysAmount_16 : decode cX12_saysAmount 16 = .ok (.return_, 1) := by decide +kernel
theorem dX12_writeOrder_0 : decode cX12_writeOrder 0 = .ok (.aload_n 0, 1) := by decide +kernel
theorem dX12_writeOrder_1 : decode cX12_writeOrder 1 = .ok (.iload_n 1, 1) := by decide +kernel
theorem dX12_writeOrder_2 : decode cX12_writeOrder 2 = .ok (.invokevirtual 117, 3) := by decide +kernel
theorem dX12_writeOrder_5 : decode cX12_writeOrder 5 = .ok (.istore_n 2, 1) := by decide +kernel
theorem dX12_writeOrder_6 : decode cX12_writeOrder 6 = .ok (.aload_n 0, 1) := by decide +kernel
theorem dX12_writeOrder_7 : decode cX12_writeOrder 7 = .ok (.iload_n 2, 1) := by decide +kernel
theorem dX12_writeOrder_8 : decode cX12_writeOrder 8 = .ok (.ifCond .lt 7, 3) := by decide +kernel
theorem dX12_writeOrder_11 : decode cX12_writeOrder 11 = .ok (.iconst 1, 1) := by decide +kernel
theorem dX12_writeOrder_12 : decode cX12_writeOrder 12 = .ok (.goto 4, 3) := by decide +kernel
theorem dX12_writeOrder_15 : decode cX12_writeOrder 15 = .ok (.iconst 0, 1) := by decide +kernel
theorem dX12_writeOrder_16 : decode cX12_writeOrder 16 = .ok (.invokevirtual 142, 3) := by decide +kernel
theorem dX12_writeOrder_19 : decode cX12_writeOrder 19 = .ok (.ifCond .ne 5, 3) := by decide +kernel
theorem dX12_writeOrder_22 : decode cX12_writeOrder 22 = .ok (.iconst 0, 1) := by decide +kernel
theorem dX12_writeOrder_23 : decode cX12_writeOrder 23 = .ok (.ireturn, 1) := by decide +kernel
theorem dX12_writeOrder_24 : decode cX12_writeOrder 24 = .ok (.aload_n 0, 1) := by decide +kernel
theorem dX12_writeOrder_25 : decode cX12_writeOrder 25 = .ok (.iconst 0, 1) := by decide +kernel
theorem dX12_writeOrder_26 : decode cX12_writeOrder 26 = .ok (.putfield 165, 3) := by decide +kernel
theorem dX12_writeOrder_29 : decode cX12_writeOrder 29 = .ok (.aload_n 0, 1) := by decide +kernel
theorem dX12_writeOrder_30 : decode cX12_writeOrder 30 = .ok (.iload_n 1, 1) := by decide +kernel
theorem dX12_writeOrder_31 : decode cX12_writeOrder 31 = .ok (.invokevirtual 168, 3) := by decide +kernel
theorem dX12_writeOrder_34 : decode cX12_writeOrder 34 = .ok (.aload_n 0, 1) := by decide +kernel
theorem dX12_writeOrder_35 : decode cX12_writeOrder 35 = .ok (.aload_n 0, 1) := by decide +kernel
theorem dX12_writeOrder_36 : decode cX12_writeOrder 36 = .ok (.iload_n 2, 1) := by decide +kernel
theorem dX12_writeOrder_37 : decode cX12_writeOrder 37 = .ok (.invokevirtual 62, 3) := by decide +kernel
theorem dX12_writeOrder_40 : decode cX12_writeOrder 40 = .ok (.ifCond .eq 8, 3) := by decide +kernel
theorem dX12_writeOrder_43 : decode cX12_writeOrder 43 = .ok (.bipush 98, 2) := by decide +kernel
theorem dX12_writeOrder_45 : decode cX12_writeOrder 45 = .ok (.goto 5, 3) := by decide +kernel
theorem dX12_writeOrder_48 : decode cX12_writeOrder 48 = .ok (.bipush 115, 2) := by decide +kernel
theorem dX12_writeOrder_50 : decode cX12_writeOrder 50 = .ok (.invokevirtual 171, 3) := by decide +kernel
theorem dX12_writeOrder_53 : decode cX12_writeOrder 53 = .ok (.aload_n 0, 1) := by decide +kernel
theorem dX12_writeOrder_54 : decode cX12_writeOrder 54 = .ok (.aload_n 0, 1) := by decide +kernel
theorem dX12_writeOrder_55 : decode cX12_writeOrder 55 = .ok (.iload_n 2, 1) := by decide +kernel
theorem dX12_writeOrder_56 : decode cX12_writeOrder 56 = .ok (.iconst 4, 1) := by decide +kernel
theorem dX12_writeOrder_57 : decode cX12_writeOrder 57 = .ok (.invokevirtual 55, 3) := by decide +kernel
theorem dX12_writeOrder_60 : decode cX12_writeOrder 60 = .ok (.aload_n 0, 1) := by decide +kernel
theorem dX12_writeOrder_61 : decode cX12_writeOrder 61 = .ok (.iload_n 2, 1) := by decide +kernel
theorem dX12_writeOrder_62 : decode cX12_writeOrder 62 = .ok (.iconst 3, 1) := by decide +kernel
theorem dX12_writeOrder_63 : decode cX12_writeOrder 63 = .ok (.invokevirtual 55, 3) := by decide +kernel
theorem dX12_writeOrder_66 : decode cX12_writeOrder 66 = .ok (.invokevirtual 175, 3) := by decide +kernel
theorem dX12_writeOrder_69 : decode cX12_writeOrder 69 = .ok (.aload_n 0, 1) := by decide +kernel
theorem dX12_writeOrder_70 : decode cX12_writeOrder 70 = .ok (.getfield 165, 3) := by decide +kernel
theorem dX12_writeOrder_73 : decode cX12_writeOrder 73 = .ok (.ireturn, 1) := by decide +kernel
theorem dX12_saysBest_0 : decode cX12_saysBest 0 = .ok (.aload_n 0, 1) := by decide +kernel
theorem dX12_saysBest_1 : decode cX12_saysBest 1 = .ok (.iload_n 1, 1) := by decide +kernel
theorem dX12_saysBest_2 : decode cX12_saysBest 2 = .ok (.invokevirtual 70, 3) := by decide +kernel
theorem dX12_saysBest_5 : decode cX12_saysBest 5 = .ok (.istore_n 2, 1) := by decide +kernel
theorem dX12_saysBest_6 : decode cX12_saysBest 6 = .ok (.iload_n 2, 1) := by decide +kernel
theorem dX12_saysBest_7 : decode cX12_saysBest 7 = .ok (.ifCond .ge 12, 3) := by decide +kernel
theorem dX12_saysBest_10 : decode cX12_saysBest 10 = .ok (.aload_n 0, 1) := by decide +kernel
theorem dX12_saysBest_11 : decode cX12_saysBest 11 = .ok (.bipush 45, 2) := by decide +kernel
theorem dX12_saysBest_13 : decode cX12_saysBest 13 = .ok (.invokevirtual 171, 3) := by decide +kernel
theorem dX12_saysBest_16 : decode cX12_saysBest 16 = .ok (.goto 22, 3) := by decide +kernel
theorem dX12_saysBest_19 : decode cX12_saysBest 19 = .ok (.aload_n 0, 1) := by decide +kernel
theorem dX12_saysBest_20 : decode cX12_saysBest 20 = .ok (.iload_n 2, 1) := by decide +kernel
theorem dX12_saysBest_21 : decode cX12_saysBest 21 = .ok (.iconst 3, 1) := by decide +kernel
theorem dX12_saysBest_22 : decode cX12_saysBest 22 = .ok (.invokevirtual 55, 3) := by decide +kernel
theorem dX12_saysBest_25 : decode cX12_saysBest 25 = .ok (.istore_n 3, 1) := by decide +kernel
theorem dX12_saysBest_26 : decode cX12_saysBest 26 = .ok (.aload_n 0, 1) := by decide +kernel
theorem dX12_saysBest_27 : decode cX12_saysBest 27 = .ok (.aload_n 0, 1) := by decide +kernel
theorem dX12_saysBest_28 : decode cX12_saysBest 28 = .ok (.iload_n 1, 1) := by decide +kernel
theorem dX12_saysBest_29 : decode cX12_saysBest 29 = .ok (.iload_n 3, 1) := by decide +kernel
theorem dX12_saysBest_30 : decode cX12_saysBest 30 = .ok (.iload_n 3, 1) := by decide +kernel
theorem dX12_saysBest_31 : decode cX12_saysBest 31 = .ok (.invokevirtual 158, 3) := by decide +kernel
theorem dX12_saysBest_34 : decode cX12_saysBest 34 = .ok (.iload_n 3, 1) := by decide +kernel
theorem dX12_saysBest_35 : decode cX12_saysBest 35 = .ok (.invokevirtual 175, 3) := by decide +kernel
theorem dX12_saysBest_38 : decode cX12_saysBest 38 = .ok (.return_, 1) := by decide +kernel
theorem dX12_writeBook_0 : decode cX12_writeBook 0 = .ok (.aload_n 0, 1) := by decide +kernel
theorem dX12_writeBook_1 : decode cX12_writeBook 1 = .ok (.iconst 0, 1) := by decide +kernel
theorem dX12_writeBook_2 : decode cX12_writeBook 2 = .ok (.putfield 39, 3) := by decide +kernel
theorem dX12_writeBook_5 : decode cX12_writeBook 5 = .ok (.aload_n 0, 1) := by decide +kernel
theorem dX12_writeBook_6 : decode cX12_writeBook 6 = .ok (.iconst 0, 1) := by decide +kernel
theorem dX12_writeBook_7 : decode cX12_writeBook 7 = .ok (.putfield 165, 3) := by decide +kernel
theorem dX12_writeBook_10 : decode cX12_writeBook 10 = .ok (.aload_n 0, 1) := by decide +kernel
theorem dX12_writeBook_11 : decode cX12_writeBook 11 = .ok (.iconst 1, 1) := by decide +kernel
theorem dX12_writeBook_12 : decode cX12_writeBook 12 = .ok (.invokevirtual 178, 3) := by decide +kernel
theorem dX12_writeBook_15 : decode cX12_writeBook 15 = .ok (.aload_n 0, 1) := by decide +kernel
theorem dX12_writeBook_16 : decode cX12_writeBook 16 = .ok (.bipush 47, 2) := by decide +kernel
theorem dX12_writeBook_18 : decode cX12_writeBook 18 = .ok (.invokevirtual 171, 3) := by decide +kernel
theorem dX12_writeBook_21 : decode cX12_writeBook 21 = .ok (.aload_n 0, 1) := by decide +kernel
theorem dX12_writeBook_22 : decode cX12_writeBook 22 = .ok (.iconst 0, 1) := by decide +kernel
theorem dX12_writeBook_23 : decode cX12_writeBook 23 = .ok (.invokevirtual 178, 3) := by decide +kernel
theorem dX12_writeBook_26 : decode cX12_writeBook 26 = .ok (.aload_n 0, 1) := by decide +kernel
theorem dX12_writeBook_27 : decode cX12_writeBook 27 = .ok (.getfield 165, 3) := by decide +kernel
theorem dX12_writeBook_30 : decode cX12_writeBook 30 = .ok (.ireturn, 1) := by decide +kernel
theorem dX12_lineAt_0 : decode cX12_lineAt 0 = .ok (.aload_n 0, 1) := by decide +kernel
theorem dX12_lineAt_1 : decode cX12_lineAt 1 = .ok (.iload_n 1, 1) := by decide +kernel
theorem dX12_lineAt_2 : decode cX12_lineAt 2 = .ok (.iconst 0, 1) := by decide +kernel
theorem dX12_lineAt_3 : decode cX12_lineAt 3 = .ok (.aload_n 0, 1) := by decide +kernel
theorem dX12_lineAt_4 : decode cX12_lineAt 4 = .ok (.getfield 165, 3) := by decide +kernel
theorem dX12_lineAt_7 : decode cX12_lineAt 7 = .ok (.iconst 1, 1) := by decide +kernel
theorem dX12_lineAt_8 : decode cX12_lineAt 8 = .ok (.isub, 1) := by decide +kernel
theorem dX12_lineAt_9 : decode cX12_lineAt 9 = .ok (.invokestatic 51, 3) := by decide +kernel
theorem dX12_lineAt_12 : decode cX12_lineAt 12 = .ok (.invokevirtual 142, 3) := by decide +kernel
theorem dX12_lineAt_15 : decode cX12_lineAt 15 = .ok (.ifCond .eq 12, 3) := by decide +kernel
theorem dX12_lineAt_18 : decode cX12_lineAt 18 = .ok (.aload_n 0, 1) := by decide +kernel
theorem dX12_lineAt_19 : decode cX12_lineAt 19 = .ok (.getfield 22, 3) := by decide +kernel
theorem dX12_lineAt_22 : decode cX12_lineAt 22 = .ok (.iload_n 1, 1) := by decide +kernel
theorem dX12_lineAt_23 : decode cX12_lineAt 23 = .ok (.caload, 1) := by decide +kernel
theorem dX12_lineAt_24 : decode cX12_lineAt 24 = .ok (.goto 5, 3) := by decide +kernel
theorem dX12_lineAt_27 : decode cX12_lineAt 27 = .ok (.bipush 32, 2) := by decide +kernel
theorem dX12_lineAt_29 : decode cX12_lineAt 29 = .ok (.ireturn, 1) := by decide +kernel
theorem dX12_type_0 : decode cX12_type 0 = .ok (.aload_n 0, 1) := by decide +kernel
theorem dX12_type_1 : decode cX12_type 1 = .ok (.iload_n 1, 1) := by decide +kernel
theorem dX12_type_2 : decode cX12_type 2 = .ok (.bipush 32, 2) := by decide +kernel
theorem dX12_type_4 : decode cX12_type 4 = .ok (.bipush 126, 2) := by decide +kernel
theorem dX12_type_6 : decode cX12_type 6 = .ok (.invokestatic 51, 3) := by decide +kernel
theorem dX12_type_9 : decode cX12_type 9 = .ok (.ifCond .ne 7, 3) := by decide +kernel
theorem dX12_type_12 : decode cX12_type 12 = .ok (.iconst 1, 1) := by decide +kernel
theorem dX12_type_13 : decode cX12_type 13 = .ok (.goto 17, 3) := by decide +kernel
theorem dX12_type_16 : decode cX12_type 16 = .ok (.aload_n 0, 1) := by decide +kernel
theorem dX12_type_17 : decode cX12_type 17 = .ok (.getfield 182, 3) := by decide +kernel
theorem dX12_type_20 : decode cX12_type 20 = .ok (.bipush 60, 2) := by decide +kernel
theorem dX12_type_22 : decode cX12_type 22 = .ok (.if_icmp .ne 7, 3) := by decide +kernel
theorem dX12_type_25 : decode cX12_type 25 = .ok (.iconst 2, 1) := by decide +kernel
theorem dX12_type_26 : decode cX12_type 26 = .ok (.goto 4, 3) := by decide +kernel
theorem dX12_type_29 : decode cX12_type 29 = .ok (.iconst 0, 1) := by decide +kernel
theorem dX12_type_30 : decode cX12_type 30 = .ok (.putfield 39, 3) := by decide +kernel
theorem dX12_type_33 : decode cX12_type 33 = .ok (.aload_n 0, 1) := by decide +kernel
theorem dX12_type_34 : decode cX12_type 34 = .ok (.getfield 39, 3) := by decide +kernel
theorem dX12_type_37 : decode cX12_type 37 = .ok (.ifCond .le 5, 3) := by decide +kernel
theorem dX12_type_40 : decode cX12_type 40 = .ok (.iconst 0, 1) := by decide +kernel
theorem dX12_type_41 : decode cX12_type 41 = .ok (.ireturn, 1) := by decide +kernel
theorem dX12_type_42 : decode cX12_type 42 = .ok (.aload_n 0, 1) := by decide +kernel
theorem dX12_type_43 : decode cX12_type 43 = .ok (.getfield 26, 3) := by decide +kernel
theorem dX12_type_46 : decode cX12_type 46 = .ok (.aload_n 0, 1) := by decide +kernel
theorem dX12_type_47 : decode cX12_type 47 = .ok (.getfield 182, 3) := by decide +kernel
theorem dX12_type_50 : decode cX12_type 50 = .ok (.iload_n 1, 1) := by decide +kernel
theorem dX12_type_51 : decode cX12_type 51 = .ok (.castore, 1) := by decide +kernel
theorem dX12_type_52 : decode cX12_type 52 = .ok (.aload_n 0, 1) := by decide +kernel
theorem dX12_type_53 : decode cX12_type 53 = .ok (.dup, 1) := by decide +kernel
theorem dX12_type_54 : decode cX12_type 54 = .ok (.getfield 182, 3) := by decide +kernel
theorem dX12_type_57 : decode cX12_type 57 = .ok (.iconst 1, 1) := by decide +kernel
theorem dX12_type_58 : decode cX12_type 58 = .ok (.iadd, 1) := by decide +kernel
theorem dX12_type_59 : decode cX12_type 59 = .ok (.putfield 182, 3) := by decide +kernel
theorem dX12_type_62 : decode cX12_type 62 = .ok (.aload_n 0, 1) := by decide +kernel
theorem dX12_type_63 : decode cX12_type 63 = .ok (.getfield 182, 3) := by decide +kernel
theorem dX12_type_66 : decode cX12_type 66 = .ok (.ireturn, 1) := by decide +kernel
theorem dX12_behind_0 : decode cX12_behind 0 = .ok (.aload_n 0, 1) := by decide +kernel
theorem dX12_behind_1 : decode cX12_behind 1 = .ok (.getfield 185, 3) := by decide +kernel
theorem dX12_behind_4 : decode cX12_behind 4 = .ok (.iload_n 1, 1) := by decide +kernel
theorem dX12_behind_5 : decode cX12_behind 5 = .ok (.iadd, 1) := by decide +kernel
theorem dX12_behind_6 : decode cX12_behind 6 = .ok (.aload_n 0, 1) := by decide +kernel
theorem dX12_behind_7 : decode cX12_behind 7 = .ok (.getfield 182, 3) := by decide +kernel
theorem dX12_behind_10 : decode cX12_behind 10 = .ok (.if_icmp .ge 17, 3) := by decide +kernel
theorem dX12_behind_13 : decode cX12_behind 13 = .ok (.aload_n 0, 1) := by decide +kernel
theorem dX12_behind_14 : decode cX12_behind 14 = .ok (.getfield 26, 3) := by decide +kernel
theorem dX12_behind_17 : decode cX12_behind 17 = .ok (.aload_n 0, 1) := by decide +kernel
theorem dX12_behind_18 : decode cX12_behind 18 = .ok (.getfield 185, 3) := by decide +kernel
theorem dX12_behind_21 : decode cX12_behind 21 = .ok (.iload_n 1, 1) := by decide +kernel
theorem dX12_behind_22 : decode cX12_behind 22 = .ok (.iadd, 1) := by decide +kernel
theorem dX12_behind_23 : decode cX12_behind 23 = .ok (.caload, 1) := by decide +kernel
theorem dX12_behind_24 : decode cX12_behind 24 = .ok (.goto 4, 3) := by decide +kernel
theorem dX12_behind_27 : decode cX12_behind 27 = .ok (.iconst (-1), 1) := by decide +kernel
theorem dX12_behind_28 : decode cX12_behind 28 = .ok (.ireturn, 1) := by decide +kernel
theorem dX12_skip_0 : decode cX12_skip 0 = .ok (.iconst 0, 1) := by decide +kernel
theorem dX12_skip_1 : decode cX12_skip 1 = .ok (.istore_n 2, 1) := by decide +kernel
theorem dX12_skip_2 : decode cX12_skip 2 = .ok (.iload_n 2, 1) := by decide +kernel
theorem dX12_skip_3 : decode cX12_skip 3 = .ok (.aload_n 1, 1) := by decide +kernel
theorem dX12_skip_4 : decode cX12_skip 4 = .ok (.invokevirtual 188, 3) := by decide +kernel
theorem dX12_skip_7 : decode cX12_skip 7 = .ok (.if_icmp .ge 59, 3) := by decide +kernel
theorem dX12_skip_10 : decode cX12_skip 10 = .ok (.aload_n 0, 1) := by decide +kernel
theorem dX12_skip_11 : decode cX12_skip 11 = .ok (.getfield 192, 3) := by decide +kernel
theorem dX12_skip_14 : decode cX12_skip 14 = .ok (.ifCond .ne 52, 3) := by decide +kernel
theorem dX12_skip_17 : decode cX12_skip 17 = .ok (.aload_n 0, 1) := by decide +kernel
theorem dX12_skip_18 : decode cX12_skip 18 = .ok (.aload_n 0, 1) := by decide +kernel
theorem dX12_skip_19 : decode cX12_skip 19 = .ok (.iconst 0, 1) := by decide +kernel
theorem dX12_skip_20 : decode cX12_skip 20 = .ok (.invokevirtual 196, 3) := by decide +kernel
theorem dX12_skip_23 : decode cX12_skip 23 = .ok (.aload_n 1, 1) := by decide +kernel
theorem dX12_skip_24 : decode cX12_skip 24 = .ok (.iload_n 2, 1) := by decide +kernel
theorem dX12_skip_25 : decode cX12_skip 25 = .ok (.invokevirtual 199, 3) := by decide +kernel
theorem dX12_skip_28 : decode cX12_skip 28 = .ok (.if_icmp .eq 7, 3) := by decide +kernel
theorem dX12_skip_31 : decode cX12_skip 31 = .ok (.iconst 1, 1) := by decide +kernel
theorem dX12_skip_32 : decode cX12_skip 32 = .ok (.goto 4, 3) := by decide +kernel
theorem dX12_skip_35 : decode cX12_skip 35 = .ok (.iconst 0, 1) := by decide +kernel
theorem dX12_skip_36 : decode cX12_skip 36 = .ok (.putfield 192, 3) := by decide +kernel
theorem dX12_skip_39 : decode cX12_skip 39 = .ok (.aload_n 0, 1) := by decide +kernel
theorem dX12_skip_40 : decode cX12_skip 40 = .ok (.dup, 1) := by decide +kernel
theorem dX12_skip_41 : decode cX12_skip 41 = .ok (.getfield 185, 3) := by decide +kernel
theorem dX12_skip_44 : decode cX12_skip 44 = .ok (.aload_n 0, 1) := by decide +kernel
theorem dX12_skip_45 : decode cX12_skip 45 = .ok (.getfield 192, 3) := by decide +kernel
theorem dX12_skip_48 : decode cX12_skip 48 = .ok (.ifCond .eq 7, 3) := by decide +kernel
theorem dX12_skip_51 : decode cX12_skip 51 = .ok (.iconst 0, 1) := by decide +kernel
theorem dX12_skip_52 : decode cX12_skip 52 = .ok (.goto 4, 3) := by decide +kernel
theorem dX12_skip_55 : decode cX12_skip 55 = .ok (.iconst 1, 1) := by decide +kernel
theorem dX12_skip_56 : decode cX12_skip 56 = .ok (.iadd, 1) := by decide +kernel
theorem dX12_skip_57 : decode cX12_skip 57 = .ok (.putfield 185, 3) := by decide +kernel
theorem dX12_skip_60 : decode cX12_skip 60 = .ok (.iinc 2 1, 3) := by decide +kernel
theorem dX12_skip_63 : decode cX12_skip 63 = .ok (.goto (-61), 3) := by decide +kernel
theorem dX12_skip_66 : decode cX12_skip 66 = .ok (.return_, 1) := by decide +kernel
theorem dX12_isDigit_0 : decode cX12_isDigit 0 = .ok (.aload_n 0, 1) := by decide +kernel
theorem dX12_isDigit_1 : decode cX12_isDigit 1 = .ok (.getfield 192, 3) := by decide +kernel
theorem dX12_isDigit_4 : decode cX12_isDigit 4 = .ok (.ifCond .ne 22, 3) := by decide +kernel
theorem dX12_isDigit_7 : decode cX12_isDigit 7 = .ok (.aload_n 0, 1) := by decide +kernel
theorem dX12_isDigit_8 : decode cX12_isDigit 8 = .ok (.iconst 0, 1) := by decide +kernel
theorem dX12_isDigit_9 : decode cX12_isDigit 9 = .ok (.invokevirtual 196, 3) := by decide +kernel
theorem dX12_isDigit_12 : decode cX12_isDigit 12 = .ok (.bipush 48, 2) := by decide +kernel
theorem dX12_isDigit_14 : decode cX12_isDigit 14 = .ok (.bipush 57, 2) := by decide +kernel
theorem dX12_isDigit_16 : decode cX12_isDigit 16 = .ok (.invokestatic 51, 3) := by decide +kernel
theorem dX12_isDigit_19 : decode cX12_isDigit 19 = .ok (.ifCond .eq 7, 3) := by decide +kernel
theorem dX12_isDigit_22 : decode cX12_isDigit 22 = .ok (.iconst 1, 1) := by decide +kernel
theorem dX12_isDigit_23 : decode cX12_isDigit 23 = .ok (.goto 4, 3) := by decide +kernel
theorem dX12_isDigit_26 : decode cX12_isDigit 26 = .ok (.iconst 0, 1) := by decide +kernel
theorem dX12_isDigit_27 : decode cX12_isDigit 27 = .ok (.ireturn, 1) := by decide +kernel
theorem dX12_readNumber_0 : decode cX12_readNumber 0 = .ok (.aload_n 0, 1) := by decide +kernel
theorem dX12_readNumber_1 : decode cX12_readNumber 1 = .ok (.ldc 203, 2) := by decide +kernel
theorem dX12_readNumber_3 : decode cX12_readNumber 3 = .ok (.invokevirtual 205, 3) := by decide +kernel
theorem dX12_readNumber_6 : decode cX12_readNumber 6 = .ok (.aload_n 0, 1) := by decide +kernel
theorem dX12_readNumber_7 : decode cX12_readNumber 7 = .ok (.aload_n 0, 1) := by decide +kernel
theorem dX12_readNumber_8 : decode cX12_readNumber 8 = .ok (.getfield 192, 3) := by decide +kernel
theorem dX12_readNumber_11 : decode cX12_readNumber 11 = .ok (.ifCond .ne 10, 3) := by decide +kernel
theorem dX12_readNumber_14 : decode cX12_readNumber 14 = .ok (.aload_n 0, 1) := by decide +kernel
theorem dX12_readNumber_15 : decode cX12_readNumber 15 = .ok (.invokevirtual 209, 3) := by decide +kernel
theorem dX12_readNumber_18 : decode cX12_readNumber 18 = .ok (.ifCond .ne 7, 3) := by decide +kernel
theorem dX12_readNumber_21 : decode cX12_readNumber 21 = .ok (.iconst 1, 1) := by decide +kernel
theorem dX12_readNumber_22 : decode cX12_readNumber 22 = .ok (.goto 4, 3) := by decide +kernel
theorem dX12_readNumber_25 : decode cX12_readNumber 25 = .ok (.iconst 0, 1) := by decide +kernel
theorem dX12_readNumber_26 : decode cX12_readNumber 26 = .ok (.putfield 192, 3) := by decide +kernel
theorem dX12_readNumber_29 : decode cX12_readNumber 29 = .ok (.iconst 0, 1) := by decide +kernel
theorem dX12_readNumber_30 : decode cX12_readNumber 30 = .ok (.istore_n 2, 1) := by decide +kernel
theorem dX12_readNumber_31 : decode cX12_readNumber 31 = .ok (.iconst 0, 1) := by decide +kernel
theorem dX12_readNumber_32 : decode cX12_readNumber 32 = .ok (.istore_n 3, 1) := by decide +kernel
theorem dX12_readNumber_33 : decode cX12_readNumber 33 = .ok (.iload_n 3, 1) := by decide +kernel
theorem dX12_readNumber_34 : decode cX12_readNumber 34 = .ok (.iload_n 1, 1) := by decide +kernel
theorem dX12_readNumber_35 : decode cX12_readNumber 35 = .ok (.if_icmp .ge 44, 3) := by decide +kernel
theorem dX12_readNumber_38 : decode cX12_readNumber 38 = .ok (.aload_n 0, 1) := by decide +kernel
theorem dX12_readNumber_39 : decode cX12_readNumber 39 = .ok (.invokevirtual 209, 3) := by decide +kernel
theorem dX12_readNumber_42 : decode cX12_readNumber 42 = .ok (.ifCond .eq 37, 3) := by decide +kernel
theorem dX12_readNumber_45 : decode cX12_readNumber 45 = .ok (.bipush 10, 2) := by decide +kernel
theorem dX12_readNumber_47 : decode cX12_readNumber 47 = .ok (.iload_n 2, 1) := by decide +kernel
theorem dX12_readNumber_48 : decode cX12_readNumber 48 = .ok (.imul, 1) := by decide +kernel
theorem dX12_readNumber_49 : decode cX12_readNumber 49 = .ok (.aload_n 0, 1) := by decide +kernel
theorem dX12_readNumber_50 : decode cX12_readNumber 50 = .ok (.getfield 26, 3) := by decide +kernel
theorem dX12_readNumber_53 : decode cX12_readNumber 53 = .ok (.aload_n 0, 1) := by decide +kernel
theorem dX12_readNumber_54 : decode cX12_readNumber 54 = .ok (.getfield 185, 3) := by decide +kernel
theorem dX12_readNumber_57 : decode cX12_readNumber 57 = .ok (.caload, 1) := by decide +kernel
theorem dX12_readNumber_58 : decode cX12_readNumber 58 = .ok (.iadd, 1) := by decide +kernel
theorem dX12_readNumber_59 : decode cX12_readNumber 59 = .ok (.bipush 48, 2) := by decide +kernel
theorem dX12_readNumber_61 : decode cX12_readNumber 61 = .ok (.isub, 1) := by decide +kernel
theorem dX12_readNumber_62 : decode cX12_readNumber 62 = .ok (.istore_n 2, 1) := by decide +kernel
theorem dX12_readNumber_63 : decode cX12_readNumber 63 = .ok (.aload_n 0, 1) := by decide +kernel
theorem dX12_readNumber_64 : decode cX12_readNumber 64 = .ok (.dup, 1) := by decide +kernel
theorem dX12_readNumber_65 : decode cX12_readNumber 65 = .ok (.getfield 185, 3) := by decide +kernel
theorem dX12_readNumber_68 : decode cX12_readNumber 68 = .ok (.iconst 1, 1) := by decide +kernel
theorem dX12_readNumber_69 : decode cX12_readNumber 69 = .ok (.iadd, 1) := by decide +kernel
theorem dX12_readNumber_70 : decode cX12_readNumber 70 = .ok (.putfield 185, 3) := by decide +kernel
theorem dX12_readNumber_73 : decode cX12_readNumber 73 = .ok (.iinc 3 1, 3) := by decide +kernel
theorem dX12_readNumber_76 : decode cX12_readNumber 76 = .ok (.goto (-43), 3) := by decide +kernel
theorem dX12_readNumber_79 : decode cX12_readNumber 79 = .ok (.iload_n 2, 1) := by decide +kernel
theorem dX12_readNumber_80 : decode cX12_readNumber 80 = .ok (.ireturn, 1) := by decide +kernel
theorem dX12_readCommand_0 : decode cX12_readCommand 0 = .ok (.aload_n 0, 1) := by decide +kernel
theorem dX12_readCommand_1 : decode cX12_readCommand 1 = .ok (.getfield 192, 3) := by decide +kernel
theorem dX12_readCommand_4 : decode cX12_readCommand 4 = .ok (.ifCond .eq 4, 3) := by decide +kernel
theorem dX12_readCommand_7 : decode cX12_readCommand 7 = .ok (.return_, 1) := by decide +kernel
theorem dX12_readCommand_8 : decode cX12_readCommand 8 = .ok (.aload_n 0, 1) := by decide +kernel
theorem dX12_readCommand_9 : decode cX12_readCommand 9 = .ok (.iconst 0, 1) := by decide +kernel
theorem dX12_readCommand_10 : decode cX12_readCommand 10 = .ok (.invokevirtual 196, 3) := by decide +kernel
theorem dX12_readCommand_13 : decode cX12_readCommand 13 = .ok (.istore_n 1, 1) := by decide +kernel
theorem dX12_readCommand_14 : decode cX12_readCommand 14 = .ok (.aload_n 0, 1) := by decide +kernel
theorem dX12_readCommand_15 : decode cX12_readCommand 15 = .ok (.iconst 1, 1) := by decide +kernel
theorem dX12_readCommand_16 : decode cX12_readCommand 16 = .ok (.invokevirtual 196, 3) := by decide +kernel
theorem dX12_readCommand_19 : decode cX12_readCommand 19 = .ok (.istore_n 2, 1) := by decide +kernel
theorem dX12_readCommand_20 : decode cX12_readCommand 20 = .ok (.iconst 4, 1) := by decide +kernel
theorem dX12_readCommand_21 : decode cX12_readCommand 21 = .ok (.aload_n 0, 1) := by decide +kernel
theorem dX12_readCommand_22 : decode cX12_readCommand 22 = .ok (.getfield 213, 3) := by decide +kernel
theorem dX12_readCommand_25 : decode cX12_readCommand 25 = .ok (.imul, 1) := by decide +kernel
theorem dX12_readCommand_26 : decode cX12_readCommand 26 = .ok (.istore_n 3, 1) := by decide +kernel
theorem dX12_readCommand_27 : decode cX12_readCommand 27 = .ok (.aload_n 0, 1) := by decide +kernel
theorem dX12_readCommand_28 : decode cX12_readCommand 28 = .ok (.dup, 1) := by decide +kernel
theorem dX12_readCommand_29 : decode cX12_readCommand 29 = .ok (.getfield 213, 3) := by decide +kernel
theorem dX12_readCommand_32 : decode cX12_readCommand 32 = .ok (.iconst 1, 1) := by decide +kernel
theorem dX12_readCommand_33 : decode cX12_readCommand 33 = .ok (.iadd, 1) := by decide +kernel
theorem dX12_readCommand_34 : decode cX12_readCommand 34 = .ok (.putfield 213, 3) := by decide +kernel
theorem dX12_readCommand_37 : decode cX12_readCommand 37 = .ok (.aload_n 0, 1) := by decide +kernel
theorem dX12_readCommand_38 : decode cX12_readCommand 38 = .ok (.getfield 36, 3) := by decide +kernel
theorem dX12_readCommand_41 : decode cX12_readCommand 41 = .ok (.iload_n 3, 1) := by decide +kernel
theorem dX12_readCommand_42 : decode cX12_readCommand 42 = .ok (.iload_n 1, 1) := by decide +kernel
theorem dX12_readCommand_43 : decode cX12_readCommand 43 = .ok (.bipush 115, 2) := by decide +kernel
theorem dX12_readCommand_45 : decode cX12_readCommand 45 = .ok (.if_icmp .ne 14, 3) := by decide +kernel
theorem dX12_readCommand_48 : decode cX12_readCommand 48 = .ok (.iload_n 2, 1) := by decide +kernel
theorem dX12_readCommand_49 : decode cX12_readCommand 49 = .ok (.bipush 116, 2) := by decide +kernel
theorem dX12_readCommand_51 : decode cX12_readCommand 51 = .ok (.if_icmp .ne 8, 3) := by decide +kernel
theorem dX12_readCommand_54 : decode cX12_readCommand 54 = .ok (.bipush 116, 2) := by decide +kernel
theorem dX12_readCommand_56 : decode cX12_readCommand 56 = .ok (.goto 38, 3) := by decide +kernel
theorem dX12_readCommand_59 : decode cX12_readCommand 59 = .ok (.iload_n 1, 1) := by decide +kernel
theorem dX12_readCommand_60 : decode cX12_readCommand 60 = .ok (.bipush 99, 2) := by decide +kernel
theorem dX12_readCommand_62 : decode cX12_readCommand 62 = .ok (.if_icmp .ne 14, 3) := by decide +kernel
theorem dX12_readCommand_65 : decode cX12_readCommand 65 = .ok (.iload_n 2, 1) := by decide +kernel
theorem dX12_readCommand_66 : decode cX12_readCommand 66 = .ok (.bipush 108, 2) := by decide +kernel
theorem dX12_readCommand_68 : decode cX12_readCommand 68 = .ok (.if_icmp .ne 8, 3) := by decide +kernel
theorem dX12_readCommand_71 : decode cX12_readCommand 71 = .ok (.bipush 108, 2) := by decide +kernel
theorem dX12_readCommand_73 : decode cX12_readCommand 73 = .ok (.goto 21, 3) := by decide +kernel
theorem dX12_readCommand_76 : decode cX12_readCommand 76 = .ok (.iload_n 1, 1) := by decide +kernel
theorem dX12_readCommand_77 : decode cX12_readCommand 77 = .ok (.bipush 116, 2) := by decide +kernel
theorem dX12_readCommand_79 : decode cX12_readCommand 79 = .ok (.if_icmp .eq 9, 3) := by decide +kernel
theorem dX12_readCommand_82 : decode cX12_readCommand 82 = .ok (.iload_n 1, 1) := by decide +kernel
theorem dX12_readCommand_83 : decode cX12_readCommand 83 = .ok (.bipush 108, 2) := by decide +kernel
theorem dX12_readCommand_85 : decode cX12_readCommand 85 = .ok (.if_icmp .ne 8, 3) := by decide +kernel
theorem dX12_readCommand_88 : decode cX12_readCommand 88 = .ok (.bipush 111, 2) := by decide +kernel
theorem dX12_readCommand_90 : decode cX12_readCommand 90 = .ok (.goto 4, 3) := by decide +kernel
theorem dX12_readCommand_93 : decode cX12_readCommand 93 = .ok (.iload_n 1, 1) := by decide +kernel
theorem dX12_readCommand_94 : decode cX12_readCommand 94 = .ok (.iastore, 1) := by decide +kernel
theorem dX12_readCommand_95 : decode cX12_readCommand 95 = .ok (.aload_n 0, 1) := by decide +kernel
theorem dX12_readCommand_96 : decode cX12_readCommand 96 = .ok (.getfield 36, 3) := by decide +kernel
theorem dX12_readCommand_99 : decode cX12_readCommand 99 = .ok (.iload_n 3, 1) := by decide +kernel
theorem dX12_readCommand_100 : decode cX12_readCommand 100 = .ok (.iaload, 1) := by decide +kernel
theorem dX12_readCommand_101 : decode cX12_readCommand 101 = .ok (.tableswitch 238 98 116 #[126, 185, 238, 238, 238, 238, 238, 238, 238, 238, 229, 238, 238, 238, 207, 238, 238, 126, 91], 91) := by decide +kernel
theorem dX12_readCommand_192 : decode cX12_readCommand 192 = .ok (.aload_n 0, 1) := by decide +kernel
theorem dX12_readCommand_193 : decode cX12_readCommand 193 = .ok (.ldc 216, 2) := by decide +kernel
theorem dX12_readCommand_195 : decode cX12_readCommand 195 = .ok (.invokevirtual 205, 3) := by decide +kernel
theorem dX12_readCommand_198 : decode cX12_readCommand 198 = .ok (.aload_n 0, 1) := by decide +kernel
theorem dX12_readCommand_199 : decode cX12_readCommand 199 = .ok (.getfield 36, 3) := by decide +kernel
theorem dX12_readCommand_202 : decode cX12_readCommand 202 = .ok (.iload_n 3, 1) := by decide +kernel
theorem dX12_readCommand_203 : decode cX12_readCommand 203 = .ok (.iconst 1, 1) := by decide +kernel
theorem dX12_readCommand_204 : decode cX12_readCommand 204 = .ok (.iadd, 1) := by decide +kernel
theorem dX12_readCommand_205 : decode cX12_readCommand 205 = .ok (.aload_n 0, 1) := by decide +kernel
theorem dX12_readCommand_206 : decode cX12_readCommand 206 = .ok (.iconst 3, 1) := by decide +kernel
theorem dX12_readCommand_207 : decode cX12_readCommand 207 = .ok (.invokevirtual 217, 3) := by decide +kernel
theorem dX12_readCommand_210 : decode cX12_readCommand 210 = .ok (.iastore, 1) := by decide +kernel
theorem dX12_readCommand_211 : decode cX12_readCommand 211 = .ok (.aload_n 0, 1) := by decide +kernel
theorem dX12_readCommand_212 : decode cX12_readCommand 212 = .ok (.getfield 36, 3) := by decide +kernel
theorem dX12_readCommand_215 : decode cX12_readCommand 215 = .ok (.iload_n 3, 1) := by decide +kernel
theorem dX12_readCommand_216 : decode cX12_readCommand 216 = .ok (.iconst 2, 1) := by decide +kernel
theorem dX12_readCommand_217 : decode cX12_readCommand 217 = .ok (.iadd, 1) := by decide +kernel
theorem dX12_readCommand_218 : decode cX12_readCommand 218 = .ok (.aload_n 0, 1) := by decide +kernel
theorem dX12_readCommand_219 : decode cX12_readCommand 219 = .ok (.iconst 3, 1) := by decide +kernel
theorem dX12_readCommand_220 : decode cX12_readCommand 220 = .ok (.invokevirtual 217, 3) := by decide +kernel
theorem dX12_readCommand_223 : decode cX12_readCommand 223 = .ok (.iastore, 1) := by decide +kernel
theorem dX12_readCommand_224 : decode cX12_readCommand 224 = .ok (.goto 121, 3) := by decide +kernel
theorem dX12_readCommand_227 : decode cX12_readCommand 227 = .ok (.aload_n 0, 1) := by decide +kernel
theorem dX12_readCommand_228 : decode cX12_readCommand 228 = .ok (.iload_n 1, 1) := by decide +kernel
theorem dX12_readCommand_229 : decode cX12_readCommand 229 = .ok (.bipush 98, 2) := by decide +kernel
theorem dX12_readCommand_231 : decode cX12_readCommand 231 = .ok (.if_icmp .ne 8, 3) := by decide +kernel
theorem dX12_readCommand_234 : decode cX12_readCommand 234 = .ok (.ldc 220, 2) := by decide +kernel
theorem dX12_readCommand_236 : decode cX12_readCommand 236 = .ok (.goto 5, 3) := by decide +kernel
theorem dX12_readCommand_239 : decode cX12_readCommand 239 = .ok (.ldc 222, 2) := by decide +kernel
theorem dX12_readCommand_241 : decode cX12_readCommand 241 = .ok (.invokevirtual 205, 3) := by decide +kernel
theorem dX12_readCommand_244 : decode cX12_readCommand 244 = .ok (.aload_n 0, 1) := by decide +kernel
theorem dX12_readCommand_245 : decode cX12_readCommand 245 = .ok (.getfield 36, 3) := by decide +kernel
theorem dX12_readCommand_248 : decode cX12_readCommand 248 = .ok (.iload_n 3, 1) := by decide +kernel
theorem dX12_readCommand_249 : decode cX12_readCommand 249 = .ok (.iconst 1, 1) := by decide +kernel
theorem dX12_readCommand_250 : decode cX12_readCommand 250 = .ok (.iadd, 1) := by decide +kernel
theorem dX12_readCommand_251 : decode cX12_readCommand 251 = .ok (.aload_n 0, 1) := by decide +kernel
theorem dX12_readCommand_252 : decode cX12_readCommand 252 = .ok (.iconst 1, 1) := by decide +kernel
theorem dX12_readCommand_253 : decode cX12_readCommand 253 = .ok (.invokevirtual 217, 3) := by decide +kernel
theorem dX12_readCommand_256 : decode cX12_readCommand 256 = .ok (.iastore, 1) := by decide +kernel
theorem dX12_readCommand_257 : decode cX12_readCommand 257 = .ok (.aload_n 0, 1) := by decide +kernel
theorem dX12_readCommand_258 : decode cX12_readCommand 258 = .ok (.getfield 36, 3) := by decide +kernel
theorem dX12_readCommand_261 : decode cX12_readCommand 261 = .ok (.iload_n 3, 1) := by decide +kernel
theorem dX12_readCommand_262 : decode cX12_readCommand 262 = .ok (.iconst 2, 1) := by decide +kernel
theorem dX12_readCommand_263 : decode cX12_readCommand 263 = .ok (.iadd, 1) := by decide +kernel
theorem dX12_readCommand_264 : decode cX12_readCommand 264 = .ok (.aload_n 0, 1) := by decide +kernel
theorem dX12_readCommand_265 : decode cX12_readCommand 265 = .ok (.iconst 3, 1) := by decide +kernel
theorem dX12_readCommand_266 : decode cX12_readCommand 266 = .ok (.invokevirtual 217, 3) := by decide +kernel
theorem dX12_readCommand_269 : decode cX12_readCommand 269 = .ok (.iastore, 1) := by decide +kernel
theorem dX12_readCommand_270 : decode cX12_readCommand 270 = .ok (.aload_n 0, 1) := by decide +kernel
theorem dX12_readCommand_271 : decode cX12_readCommand 271 = .ok (.getfield 36, 3) := by decide +kernel
theorem dX12_readCommand_274 : decode cX12_readCommand 274 = .ok (.iload_n 3, 1) := by decide +kernel
theorem dX12_readCommand_275 : decode cX12_readCommand 275 = .ok (.iconst 3, 1) := by decide +kernel
theorem dX12_readCommand_276 : decode cX12_readCommand 276 = .ok (.iadd, 1) := by decide +kernel
theorem dX12_readCommand_277 : decode cX12_readCommand 277 = .ok (.aload_n 0, 1) := by decide +kernel
theorem dX12_readCommand_278 : decode cX12_readCommand 278 = .ok (.iconst 3, 1) := by decide +kernel
theorem dX12_readCommand_279 : decode cX12_readCommand 279 = .ok (.invokevirtual 217, 3) := by decide +kernel
theorem dX12_readCommand_282 : decode cX12_readCommand 282 = .ok (.iastore, 1) := by decide +kernel
theorem dX12_readCommand_283 : decode cX12_readCommand 283 = .ok (.goto 62, 3) := by decide +kernel
theorem dX12_readCommand_286 : decode cX12_readCommand 286 = .ok (.aload_n 0, 1) := by decide +kernel
theorem dX12_readCommand_287 : decode cX12_readCommand 287 = .ok (.ldc 224, 2) := by decide +kernel
theorem dX12_readCommand_289 : decode cX12_readCommand 289 = .ok (.invokevirtual 205, 3) := by decide +kernel
theorem dX12_readCommand_292 : decode cX12_readCommand 292 = .ok (.aload_n 0, 1) := by decide +kernel
theorem dX12_readCommand_293 : decode cX12_readCommand 293 = .ok (.getfield 36, 3) := by decide +kernel
theorem dX12_readCommand_296 : decode cX12_readCommand 296 = .ok (.iload_n 3, 1) := by decide +kernel
theorem dX12_readCommand_297 : decode cX12_readCommand 297 = .ok (.iconst 1, 1) := by decide +kernel
theorem dX12_readCommand_298 : decode cX12_readCommand 298 = .ok (.iadd, 1) := by decide +kernel
theorem dX12_readCommand_299 : decode cX12_readCommand 299 = .ok (.aload_n 0, 1) := by decide +kernel
theorem dX12_readCommand_300 : decode cX12_readCommand 300 = .ok (.iconst 3, 1) := by decide +kernel
theorem dX12_readCommand_301 : decode cX12_readCommand 301 = .ok (.invokevirtual 217, 3) := by decide +kernel
theorem dX12_readCommand_304 : decode cX12_readCommand 304 = .ok (.iastore, 1) := by decide +kernel
theorem dX12_readCommand_305 : decode cX12_readCommand 305 = .ok (.goto 40, 3) := by decide +kernel
theorem dX12_readCommand_308 : decode cX12_readCommand 308 = .ok (.aload_n 0, 1) := by decide +kernel
theorem dX12_readCommand_309 : decode cX12_readCommand 309 = .ok (.ldc 226, 2) := by decide +kernel
theorem dX12_readCommand_311 : decode cX12_readCommand 311 = .ok (.invokevirtual 205, 3) := by decide +kernel
theorem dX12_readCommand_314 : decode cX12_readCommand 314 = .ok (.aload_n 0, 1) := by decide +kernel
theorem dX12_readCommand_315 : decode cX12_readCommand 315 = .ok (.getfield 36, 3) := by decide +kernel
theorem dX12_readCommand_318 : decode cX12_readCommand 318 = .ok (.iload_n 3, 1) := by decide +kernel
theorem dX12_readCommand_319 : decode cX12_readCommand 319 = .ok (.iconst 1, 1) := by decide +kernel
theorem dX12_readCommand_320 : decode cX12_readCommand 320 = .ok (.iadd, 1) := by decide +kernel
theorem dX12_readCommand_321 : decode cX12_readCommand 321 = .ok (.aload_n 0, 1) := by decide +kernel
theorem dX12_readCommand_322 : decode cX12_readCommand 322 = .ok (.iconst 3, 1) := by decide +kernel
theorem dX12_readCommand_323 : decode cX12_readCommand 323 = .ok (.invokevirtual 217, 3) := by decide +kernel
theorem dX12_readCommand_326 : decode cX12_readCommand 326 = .ok (.iastore, 1) := by decide +kernel
theorem dX12_readCommand_327 : decode cX12_readCommand 327 = .ok (.goto 18, 3) := by decide +kernel
theorem dX12_readCommand_330 : decode cX12_readCommand 330 = .ok (.aload_n 0, 1) := by decide +kernel
theorem dX12_readCommand_331 : decode cX12_readCommand 331 = .ok (.ldc 228, 2) := by decide +kernel
theorem dX12_readCommand_333 : decode cX12_readCommand 333 = .ok (.invokevirtual 205, 3) := by decide +kernel
theorem dX12_readCommand_336 : decode cX12_readCommand 336 = .ok (.goto 9, 3) := by decide +kernel
theorem dX12_readCommand_339 : decode cX12_readCommand 339 = .ok (.aload_n 0, 1) := by decide +kernel
theorem dX12_readCommand_340 : decode cX12_readCommand 340 = .ok (.ldc 230, 2) := by decide +kernel
theorem dX12_readCommand_342 : decode cX12_readCommand 342 = .ok (.invokevirtual 205, 3) := by decide +kernel
theorem dX12_readCommand_345 : decode cX12_readCommand 345 = .ok (.return_, 1) := by decide +kernel
theorem dX12_does_0 : decode cX12_does 0 = .ok (.aload_n 0, 1) := by decide +kernel
theorem dX12_does_1 : decode cX12_does 1 = .ok (.getfield 36, 3) := by decide +kernel
theorem dX12_does_4 : decode cX12_does 4 = .ok (.iconst 4, 1) := by decide +kernel
theorem dX12_does_5 : decode cX12_does 5 = .ok (.iload_n 1, 1) := by decide +kernel
theorem dX12_does_6 : decode cX12_does 6 = .ok (.imul, 1) := by decide +kernel
theorem dX12_does_7 : decode cX12_does 7 = .ok (.iconst 1, 1) := by decide +kernel
theorem dX12_does_8 : decode cX12_does 8 = .ok (.iadd, 1) := by decide +kernel
theorem dX12_does_9 : decode cX12_does 9 = .ok (.iaload, 1) := by decide +kernel
theorem dX12_does_10 : decode cX12_does 10 = .ok (.istore_n 2, 1) := by decide +kernel
theorem dX12_does_11 : decode cX12_does 11 = .ok (.aload_n 0, 1) := by decide +kernel
theorem dX12_does_12 : decode cX12_does 12 = .ok (.getfield 36, 3) := by decide +kernel
theorem dX12_does_15 : decode cX12_does 15 = .ok (.iconst 4, 1) := by decide +kernel
theorem dX12_does_16 : decode cX12_does 16 = .ok (.iload_n 1, 1) := by decide +kernel
theorem dX12_does_17 : decode cX12_does 17 = .ok (.imul, 1) := by decide +kernel
theorem dX12_does_18 : decode cX12_does 18 = .ok (.iconst 2, 1) := by decide +kernel
theorem dX12_does_19 : decode cX12_does 19 = .ok (.iadd, 1) := by decide +kernel
theorem dX12_does_20 : decode cX12_does 20 = .ok (.iaload, 1) := by decide +kernel
theorem dX12_does_21 : decode cX12_does 21 = .ok (.istore_n 3, 1) := by decide +kernel
theorem dX12_does_22 : decode cX12_does 22 = .ok (.aload_n 0, 1) := by decide +kernel
theorem dX12_does_23 : decode cX12_does 23 = .ok (.getfield 36, 3) := by decide +kernel
theorem dX12_does_26 : decode cX12_does 26 = .ok (.iconst 4, 1) := by decide +kernel
theorem dX12_does_27 : decode cX12_does 27 = .ok (.iload_n 1, 1) := by decide +kernel
theorem dX12_does_28 : decode cX12_does 28 = .ok (.imul, 1) := by decide +kernel
theorem dX12_does_29 : decode cX12_does 29 = .ok (.iaload, 1) := by decide +kernel
theorem dX12_does_30 : decode cX12_does 30 = .ok (.tableswitch 170 98 116 #[101, 141, 170, 170, 170, 170, 170, 170, 170, 170, 161, 170, 170, 170, 151, 170, 170, 101, 90], 90) := by decide +kernel
theorem dX12_does_120 : decode cX12_does 120 = .ok (.aload_n 0, 1) := by decide +kernel
theorem dX12_does_121 : decode cX12_does 121 = .ok (.iload_n 2, 1) := by decide +kernel
theorem dX12_does_122 : decode cX12_does 122 = .ok (.iload_n 3, 1) := by decide +kernel
theorem dX12_does_123 : decode cX12_does 123 = .ok (.invokevirtual 104, 3) := by decide +kernel
theorem dX12_does_126 : decode cX12_does 126 = .ok (.istore 4, 2) := by decide +kernel
theorem dX12_does_128 : decode cX12_does 128 = .ok (.goto 78, 3) := by decide +kernel
theorem dX12_does_131 : decode cX12_does 131 = .ok (.aload_n 0, 1) := by decide +kernel
theorem dX12_does_132 : decode cX12_does 132 = .ok (.iload_n 2, 1) := by decide +kernel
theorem dX12_does_133 : decode cX12_does 133 = .ok (.aload_n 0, 1) := by decide +kernel
theorem dX12_does_134 : decode cX12_does 134 = .ok (.getfield 36, 3) := by decide +kernel
theorem dX12_does_137 : decode cX12_does 137 = .ok (.iconst 4, 1) := by decide +kernel
theorem dX12_does_138 : decode cX12_does 138 = .ok (.iload_n 1, 1) := by decide +kernel
theorem dX12_does_139 : decode cX12_does 139 = .ok (.imul, 1) := by decide +kernel
theorem dX12_does_140 : decode cX12_does 140 = .ok (.iaload, 1) := by decide +kernel
theorem dX12_does_141 : decode cX12_does 141 = .ok (.bipush 98, 2) := by decide +kernel
theorem dX12_does_143 : decode cX12_does 143 = .ok (.if_icmp .ne 7, 3) := by decide +kernel
theorem dX12_does_146 : decode cX12_does 146 = .ok (.iconst 1, 1) := by decide +kernel
theorem dX12_does_147 : decode cX12_does 147 = .ok (.goto 4, 3) := by decide +kernel
theorem dX12_does_150 : decode cX12_does 150 = .ok (.iconst 0, 1) := by decide +kernel
theorem dX12_does_151 : decode cX12_does 151 = .ok (.iload_n 3, 1) := by decide +kernel
theorem dX12_does_152 : decode cX12_does 152 = .ok (.aload_n 0, 1) := by decide +kernel
theorem dX12_does_153 : decode cX12_does 153 = .ok (.getfield 36, 3) := by decide +kernel
theorem dX12_does_156 : decode cX12_does 156 = .ok (.iconst 4, 1) := by decide +kernel
theorem dX12_does_157 : decode cX12_does 157 = .ok (.iload_n 1, 1) := by decide +kernel
theorem dX12_does_158 : decode cX12_does 158 = .ok (.imul, 1) := by decide +kernel
theorem dX12_does_159 : decode cX12_does 159 = .ok (.iconst 3, 1) := by decide +kernel
theorem dX12_does_160 : decode cX12_does 160 = .ok (.iadd, 1) := by decide +kernel
theorem dX12_does_161 : decode cX12_does 161 = .ok (.iaload, 1) := by decide +kernel
theorem dX12_does_162 : decode cX12_does 162 = .ok (.iconst 0, 1) := by decide +kernel
theorem dX12_does_163 : decode cX12_does 163 = .ok (.invokevirtual 110, 3) := by decide +kernel
theorem dX12_does_166 : decode cX12_does 166 = .ok (.istore 4, 2) := by decide +kernel
theorem dX12_does_168 : decode cX12_does 168 = .ok (.goto 38, 3) := by decide +kernel
theorem dX12_does_171 : decode cX12_does 171 = .ok (.aload_n 0, 1) := by decide +kernel
theorem dX12_does_172 : decode cX12_does 172 = .ok (.iload_n 2, 1) := by decide +kernel
theorem dX12_does_173 : decode cX12_does 173 = .ok (.invokevirtual 120, 3) := by decide +kernel
theorem dX12_does_176 : decode cX12_does 176 = .ok (.istore 4, 2) := by decide +kernel
theorem dX12_does_178 : decode cX12_does 178 = .ok (.goto 28, 3) := by decide +kernel
theorem dX12_does_181 : decode cX12_does 181 = .ok (.aload_n 0, 1) := by decide +kernel
theorem dX12_does_182 : decode cX12_does 182 = .ok (.iload_n 2, 1) := by decide +kernel
theorem dX12_does_183 : decode cX12_does 183 = .ok (.invokevirtual 123, 3) := by decide +kernel
theorem dX12_does_186 : decode cX12_does 186 = .ok (.istore 4, 2) := by decide +kernel
theorem dX12_does_188 : decode cX12_does 188 = .ok (.goto 18, 3) := by decide +kernel
theorem dX12_does_191 : decode cX12_does 191 = .ok (.aload_n 0, 1) := by decide +kernel
theorem dX12_does_192 : decode cX12_does 192 = .ok (.invokevirtual 139, 3) := by decide +kernel
theorem dX12_does_195 : decode cX12_does 195 = .ok (.istore 4, 2) := by decide +kernel
theorem dX12_does_197 : decode cX12_does 197 = .ok (.goto 9, 3) := by decide +kernel
theorem dX12_does_200 : decode cX12_does 200 = .ok (.aload_n 0, 1) := by decide +kernel
theorem dX12_does_201 : decode cX12_does 201 = .ok (.invokevirtual 126, 3) := by decide +kernel
theorem dX12_does_204 : decode cX12_does 204 = .ok (.istore 4, 2) := by decide +kernel
theorem dX12_does_206 : decode cX12_does 206 = .ok (.return_, 1) := by decide +kernel
theorem dX12_execute_0 : decode cX12_execute 0 = .ok (.aload_n 0, 1) := by decide +kernel
theorem dX12_execute_1 : decode cX12_execute 1 = .ok (.iconst 0, 1) := by decide +kernel
theorem dX12_execute_2 : decode cX12_execute 2 = .ok (.putfield 185, 3) := by decide +kernel
theorem dX12_execute_5 : decode cX12_execute 5 = .ok (.aload_n 0, 1) := by decide +kernel
theorem dX12_execute_6 : decode cX12_execute 6 = .ok (.iconst 0, 1) := by decide +kernel
theorem dX12_execute_7 : decode cX12_execute 7 = .ok (.putfield 192, 3) := by decide +kernel
theorem dX12_execute_10 : decode cX12_execute 10 = .ok (.aload_n 0, 1) := by decide +kernel
theorem dX12_execute_11 : decode cX12_execute 11 = .ok (.iconst 0, 1) := by decide +kernel
theorem dX12_execute_12 : decode cX12_execute 12 = .ok (.putfield 213, 3) := by decide +kernel
theorem dX12_execute_15 : decode cX12_execute 15 = .ok (.aload_n 0, 1) := by decide +kernel
theorem dX12_execute_16 : decode cX12_execute 16 = .ok (.invokevirtual 232, 3) := by decide +kernel
theorem dX12_execute_19 : decode cX12_execute 19 = .ok (.aload_n 0, 1) := by decide +kernel
theorem dX12_execute_20 : decode cX12_execute 20 = .ok (.getfield 192, 3) := by decide +kernel
theorem dX12_execute_23 : decode cX12_execute 23 = .ok (.ifCond .ne 30, 3) := by decide +kernel
theorem dX12_execute_26 : decode cX12_execute 26 = .ok (.aload_n 0, 1) := by decide +kernel
theorem dX12_execute_27 : decode cX12_execute 27 = .ok (.iconst 0, 1) := by decide +kernel
theorem dX12_execute_28 : decode cX12_execute 28 = .ok (.invokevirtual 196, 3) := by decide +kernel
theorem dX12_execute_31 : decode cX12_execute 31 = .ok (.bipush 59, 2) := by decide +kernel
theorem dX12_execute_33 : decode cX12_execute 33 = .ok (.if_icmp .ne 20, 3) := by decide +kernel
theorem dX12_execute_36 : decode cX12_execute 36 = .ok (.aload_n 0, 1) := by decide +kernel
theorem dX12_execute_37 : decode cX12_execute 37 = .ok (.dup, 1) := by decide +kernel
theorem dX12_execute_38 : decode cX12_execute 38 = .ok (.getfield 185, 3) := by decide +kernel
theorem dX12_execute_41 : decode cX12_execute 41 = .ok (.iconst 1, 1) := by decide +kernel
theorem dX12_execute_42 : decode cX12_execute 42 = .ok (.iadd, 1) := by decide +kernel
theorem dX12_execute_43 : decode cX12_execute 43 = .ok (.putfield 185, 3) := by decide +kernel
theorem dX12_execute_46 : decode cX12_execute 46 = .ok (.aload_n 0, 1) := by decide +kernel
theorem dX12_execute_47 : decode cX12_execute 47 = .ok (.invokevirtual 232, 3) := by decide +kernel
theorem dX12_execute_50 : decode cX12_execute 50 = .ok (.goto (-31), 3) := by decide +kernel
theorem dX12_execute_53 : decode cX12_execute 53 = .ok (.aload_n 0, 1) := by decide +kernel
theorem dX12_execute_54 : decode cX12_execute 54 = .ok (.aload_n 0, 1) := by decide +kernel
theorem dX12_execute_55 : decode cX12_execute 55 = .ok (.getfield 192, 3) := by decide +kernel
theorem dX12_execute_58 : decode cX12_execute 58 = .ok (.ifCond .ne 14, 3) := by decide +kernel
theorem dX12_execute_61 : decode cX12_execute 61 = .ok (.aload_n 0, 1) := by decide +kernel
theorem dX12_execute_62 : decode cX12_execute 62 = .ok (.getfield 185, 3) := by decide +kernel
theorem dX12_execute_65 : decode cX12_execute 65 = .ok (.aload_n 0, 1) := by decide +kernel
theorem dX12_execute_66 : decode cX12_execute 66 = .ok (.getfield 182, 3) := by decide +kernel
theorem dX12_execute_69 : decode cX12_execute 69 = .ok (.if_icmp .ge 7, 3) := by decide +kernel
theorem dX12_execute_72 : decode cX12_execute 72 = .ok (.iconst 1, 1) := by decide +kernel
theorem dX12_execute_73 : decode cX12_execute 73 = .ok (.goto 4, 3) := by decide +kernel
theorem dX12_execute_76 : decode cX12_execute 76 = .ok (.iconst 0, 1) := by decide +kernel
theorem dX12_execute_77 : decode cX12_execute 77 = .ok (.putfield 192, 3) := by decide +kernel
theorem dX12_execute_80 : decode cX12_execute 80 = .ok (.aload_n 0, 1) := by decide +kernel
theorem dX12_execute_81 : decode cX12_execute 81 = .ok (.aload_n 0, 1) := by decide +kernel
theorem dX12_execute_82 : decode cX12_execute 82 = .ok (.getfield 192, 3) := by decide +kernel
theorem dX12_execute_85 : decode cX12_execute 85 = .ok (.ifCond .eq 10, 3) := by decide +kernel
theorem dX12_execute_88 : decode cX12_execute 88 = .ok (.aload_n 0, 1) := by decide +kernel
theorem dX12_execute_89 : decode cX12_execute 89 = .ok (.getfield 185, 3) := by decide +kernel
theorem dX12_execute_92 : decode cX12_execute 92 = .ok (.goto 7, 3) := by decide +kernel
theorem dX12_execute_95 : decode cX12_execute 95 = .ok (.aload_n 0, 1) := by decide +kernel
theorem dX12_execute_96 : decode cX12_execute 96 = .ok (.getfield 29, 3) := by decide +kernel
theorem dX12_execute_99 : decode cX12_execute 99 = .ok (.putfield 29, 3) := by decide +kernel
theorem dX12_execute_102 : decode cX12_execute 102 = .ok (.aload_n 0, 1) := by decide +kernel
theorem dX12_execute_103 : decode cX12_execute 103 = .ok (.iconst 0, 1) := by decide +kernel
theorem dX12_execute_104 : decode cX12_execute 104 = .ok (.putfield 182, 3) := by decide +kernel
theorem dX12_execute_107 : decode cX12_execute 107 = .ok (.aload_n 0, 1) := by decide +kernel
theorem dX12_execute_108 : decode cX12_execute 108 = .ok (.getfield 192, 3) := by decide +kernel
theorem dX12_execute_111 : decode cX12_execute 111 = .ok (.ifCond .eq 9, 3) := by decide +kernel
theorem dX12_execute_114 : decode cX12_execute 114 = .ok (.aload_n 0, 1) := by decide +kernel
theorem dX12_execute_115 : decode cX12_execute 115 = .ok (.iconst 1, 1) := by decide +kernel
theorem dX12_execute_116 : decode cX12_execute 116 = .ok (.invokevirtual 90, 3) := by decide +kernel
theorem dX12_execute_119 : decode cX12_execute 119 = .ok (.ireturn, 1) := by decide +kernel
theorem dX12_execute_120 : decode cX12_execute 120 = .ok (.aload_n 0, 1) := by decide +kernel
theorem dX12_execute_121 : decode cX12_execute 121 = .ok (.invokevirtual 101, 3) := by decide +kernel
theorem dX12_execute_124 : decode cX12_execute 124 = .ok (.iconst 0, 1) := by decide +kernel
theorem dX12_execute_125 : decode cX12_execute 125 = .ok (.istore_n 1, 1) := by decide +kernel
theorem dX12_execute_126 : decode cX12_execute 126 = .ok (.iload_n 1, 1) := by decide +kernel
theorem dX12_execute_127 : decode cX12_execute 127 = .ok (.aload_n 0, 1) := by decide +kernel
theorem dX12_execute_128 : decode cX12_execute 128 = .ok (.getfield 213, 3) := by decide +kernel
theorem dX12_execute_131 : decode cX12_execute 131 = .ok (.if_icmp .ge 36, 3) := by decide +kernel
theorem dX12_execute_134 : decode cX12_execute 134 = .ok (.aload_n 0, 1) := by decide +kernel
theorem dX12_execute_135 : decode cX12_execute 135 = .ok (.iload_n 1, 1) := by decide +kernel
theorem dX12_execute_136 : decode cX12_execute 136 = .ok (.invokevirtual 235, 3) := by decide +kernel
theorem dX12_execute_139 : decode cX12_execute 139 = .ok (.aload_n 0, 1) := by decide +kernel
theorem dX12_execute_140 : decode cX12_execute 140 = .ok (.getfield 39, 3) := by decide +kernel
theorem dX12_execute_143 : decode cX12_execute 143 = .ok (.ifCond .le 18, 3) := by decide +kernel
theorem dX12_execute_146 : decode cX12_execute 146 = .ok (.aload_n 0, 1) := by decide +kernel
theorem dX12_execute_147 : decode cX12_execute 147 = .ok (.iload_n 1, 1) := by decide +kernel
theorem dX12_execute_148 : decode cX12_execute 148 = .ok (.putfield 33, 3) := by decide +kernel
theorem dX12_execute_151 : decode cX12_execute 151 = .ok (.aload_n 0, 1) := by decide +kernel
theorem dX12_execute_152 : decode cX12_execute 152 = .ok (.aload_n 0, 1) := by decide +kernel
theorem dX12_execute_153 : decode cX12_execute 153 = .ok (.iconst 2, 1) := by decide +kernel
theorem dX12_execute_154 : decode cX12_execute 154 = .ok (.invokevirtual 90, 3) := by decide +kernel
theorem dX12_execute_157 : decode cX12_execute 157 = .ok (.invokevirtual 107, 3) := by decide +kernel
theorem dX12_execute_160 : decode cX12_execute 160 = .ok (.ireturn, 1) := by decide +kernel
theorem dX12_execute_161 : decode cX12_execute 161 = .ok (.iinc 1 1, 3) := by decide +kernel
theorem dX12_execute_164 : decode cX12_execute 164 = .ok (.goto (-38), 3) := by decide +kernel
theorem dX12_execute_167 : decode cX12_execute 167 = .ok (.aload_n 0, 1) := by decide +kernel
theorem dX12_execute_168 : decode cX12_execute 168 = .ok (.aload_n 0, 1) := by decide +kernel
theorem dX12_execute_169 : decode cX12_execute 169 = .ok (.getfield 213, 3) := by decide +kernel
theorem dX12_execute_172 : decode cX12_execute 172 = .ok (.invokevirtual 107, 3) := by decide +kernel
theorem dX12_execute_175 : decode cX12_execute 175 = .ok (.ireturn, 1) := by decide +kernel
theorem dX12_errorPosition_0 : decode cX12_errorPosition 0 = .ok (.aload_n 0, 1) := by decide +kernel
theorem dX12_errorPosition_1 : decode cX12_errorPosition 1 = .ok (.aload_n 0, 1) := by decide +kernel
theorem dX12_errorPosition_2 : decode cX12_errorPosition 2 = .ok (.getfield 29, 3) := by decide +kernel
theorem dX12_errorPosition_5 : decode cX12_errorPosition 5 = .ok (.ifCond .lt 7, 3) := by decide +kernel
theorem dX12_errorPosition_8 : decode cX12_errorPosition 8 = .ok (.iconst 1, 1) := by decide +kernel
theorem dX12_errorPosition_9 : decode cX12_errorPosition 9 = .ok (.goto 4, 3) := by decide +kernel
theorem dX12_errorPosition_12 : decode cX12_errorPosition 12 = .ok (.iconst 0, 1) := by decide +kernel
theorem dX12_errorPosition_13 : decode cX12_errorPosition 13 = .ok (.invokevirtual 142, 3) := by decide +kernel
theorem dX12_errorPosition_16 : decode cX12_errorPosition 16 = .ok (.ifCond .eq 10, 3) := by decide +kernel
theorem dX12_errorPosition_19 : decode cX12_errorPosition 19 = .ok (.aload_n 0, 1) := by decide +kernel
theorem dX12_errorPosition_20 : decode cX12_errorPosition 20 = .ok (.getfield 29, 3) := by decide +kernel
theorem dX12_errorPosition_23 : decode cX12_errorPosition 23 = .ok (.goto 4, 3) := by decide +kernel
theorem dX12_errorPosition_26 : decode cX12_errorPosition 26 = .ok (.iconst 0, 1) := by decide +kernel
theorem dX12_errorPosition_27 : decode cX12_errorPosition 27 = .ok (.ireturn, 1) := by decide +kernel
theorem dX12_failedCommand_0 : decode cX12_failedCommand 0 = .ok (.aload_n 0, 1) := by decide +kernel
theorem dX12_failedCommand_1 : decode cX12_failedCommand 1 = .ok (.aload_n 0, 1) := by decide +kernel
theorem dX12_failedCommand_2 : decode cX12_failedCommand 2 = .ok (.getfield 33, 3) := by decide +kernel
theorem dX12_failedCommand_5 : decode cX12_failedCommand 5 = .ok (.ifCond .lt 7, 3) := by decide +kernel
theorem dX12_failedCommand_8 : decode cX12_failedCommand 8 = .ok (.iconst 1, 1) := by decide +kernel
theorem dX12_failedCommand_9 : decode cX12_failedCommand 9 = .ok (.goto 4, 3) := by decide +kernel
theorem dX12_failedCommand_12 : decode cX12_failedCommand 12 = .ok (.iconst 0, 1) := by decide +kernel
theorem dX12_failedCommand_13 : decode cX12_failedCommand 13 = .ok (.invokevirtual 142, 3) := by decide +kernel
theorem dX12_failedCommand_16 : decode cX12_failedCommand 16 = .ok (.ifCond .eq 10, 3) := by decide +kernel
theorem dX12_failedCommand_19 : decode cX12_failedCommand 19 = .ok (.aload_n 0, 1) := by decide +kernel
theorem dX12_failedCommand_20 : decode cX12_failedCommand 20 = .ok (.getfield 33, 3) := by decide +kernel
theorem dX12_failedCommand_23 : decode cX12_failedCommand 23 = .ok (.goto 4, 3) := by decide +kernel
theorem dX12_failedCommand_26 : decode cX12_failedCommand 26 = .ok (.iconst 0, 1) := by decide +kernel
theorem dX12_failedCommand_27 : decode cX12_failedCommand 27 = .ok (.ireturn, 1) := by decide +kernel
theorem dX12_undo_0 : decode cX12_undo 0 = .ok (.aload_n 0, 1) := by decide +kernel
theorem dX12_undo_1 : decode cX12_undo 1 = .ok (.aload_n 0, 1) := by decide +kernel
theorem dX12_undo_2 : decode cX12_undo 2 = .ok (.getfield 48, 3) := by decide +kernel
theorem dX12_undo_5 : decode cX12_undo 5 = .ok (.ifCond .ne 7, 3) := by decide +kernel
theorem dX12_undo_8 : decode cX12_undo 8 = .ok (.iconst 1, 1) := by decide +kernel
theorem dX12_undo_9 : decode cX12_undo 9 = .ok (.goto 4, 3) := by decide +kernel
theorem dX12_undo_12 : decode cX12_undo 12 = .ok (.iconst 0, 1) := by decide +kernel
theorem dX12_undo_13 : decode cX12_undo 13 = .ok (.putfield 39, 3) := by decide +kernel
theorem dX12_undo_16 : decode cX12_undo 16 = .ok (.aload_n 0, 1) := by decide +kernel
theorem dX12_undo_17 : decode cX12_undo 17 = .ok (.getfield 39, 3) := by decide +kernel
theorem dX12_undo_20 : decode cX12_undo 20 = .ok (.ifCond .le 5, 3) := by decide +kernel
theorem dX12_undo_23 : decode cX12_undo 23 = .ok (.iconst 0, 1) := by decide +kernel
theorem dX12_undo_24 : decode cX12_undo 24 = .ok (.ireturn, 1) := by decide +kernel
theorem dX12_undo_25 : decode cX12_undo 25 = .ok (.aload_n 0, 1) := by decide +kernel
theorem dX12_undo_26 : decode cX12_undo 26 = .ok (.dup, 1) := by decide +kernel
theorem dX12_undo_27 : decode cX12_undo 27 = .ok (.getfield 48, 3) := by decide +kernel
theorem dX12_undo_30 : decode cX12_undo 30 = .ok (.iconst 1, 1) := by decide +kernel
theorem dX12_undo_31 : decode cX12_undo 31 = .ok (.isub, 1) := by decide +kernel
theorem dX12_undo_32 : decode cX12_undo 32 = .ok (.putfield 48, 3) := by decide +kernel
theorem dX12_undo_35 : decode cX12_undo 35 = .ok (.aload_n 0, 1) := by decide +kernel
theorem dX12_undo_36 : decode cX12_undo 36 = .ok (.getfield 19, 3) := by decide +kernel
theorem dX12_undo_39 : decode cX12_undo 39 = .ok (.sipush 147, 3) := by decide +kernel
theorem dX12_undo_42 : decode cX12_undo 42 = .ok (.aload_n 0, 1) := by decide +kernel
theorem dX12_undo_43 : decode cX12_undo 43 = .ok (.getfield 48, 3) := by decide +kernel
theorem dX12_undo_46 : decode cX12_undo 46 = .ok (.imul, 1) := by decide +kernel
theorem dX12_undo_47 : decode cX12_undo 47 = .ok (.aload_n 0, 1) := by decide +kernel
theorem dX12_undo_48 : decode cX12_undo 48 = .ok (.getfield 9, 3) := by decide +kernel
theorem dX12_undo_51 : decode cX12_undo 51 = .ok (.iconst 0, 1) := by decide +kernel
theorem dX12_undo_52 : decode cX12_undo 52 = .ok (.sipush 147, 3) := by decide +kernel
theorem dX12_undo_55 : decode cX12_undo 55 = .ok (.invokestatic 42, 3) := by decide +kernel
theorem dX12_undo_58 : decode cX12_undo 58 = .ok (.aload_n 0, 1) := by decide +kernel
theorem dX12_undo_59 : decode cX12_undo 59 = .ok (.getfield 48, 3) := by decide +kernel
theorem dX12_undo_62 : decode cX12_undo 62 = .ok (.ireturn, 1) := by decide +kernel
theorem dX12_save_0 : decode cX12_save 0 = .ok (.aload_n 0, 1) := by decide +kernel
theorem dX12_save_1 : decode cX12_save 1 = .ok (.iconst 0, 1) := by decide +kernel
theorem dX12_save_2 : decode cX12_save 2 = .ok (.putfield 39, 3) := by decide +kernel
theorem dX12_save_5 : decode cX12_save 5 = .ok (.aload_n 0, 1) := by decide +kernel
theorem dX12_save_6 : decode cX12_save 6 = .ok (.getfield 9, 3) := by decide +kernel
theorem dX12_save_9 : decode cX12_save 9 = .ok (.iconst 0, 1) := by decide +kernel
theorem dX12_save_10 : decode cX12_save 10 = .ok (.aload_n 0, 1) := by decide +kernel
theorem dX12_save_11 : decode cX12_save 11 = .ok (.getfield 16, 3) := by decide +kernel
theorem dX12_save_14 : decode cX12_save 14 = .ok (.iconst 0, 1) := by decide +kernel
theorem dX12_save_15 : decode cX12_save 15 = .ok (.sipush 147, 3) := by decide +kernel
theorem dX12_save_18 : decode cX12_save 18 = .ok (.invokestatic 42, 3) := by decide +kernel
theorem dX12_save_21 : decode cX12_save 21 = .ok (.aload_n 0, 1) := by decide +kernel
theorem dX12_save_22 : decode cX12_save 22 = .ok (.iconst 1, 1) := by decide +kernel
theorem dX12_save_23 : decode cX12_save 23 = .ok (.putfield 238, 3) := by decide +kernel
theorem dX12_save_26 : decode cX12_save 26 = .ok (.aload_n 0, 1) := by decide +kernel
theorem dX12_save_27 : decode cX12_save 27 = .ok (.getfield 9, 3) := by decide +kernel
theorem dX12_save_30 : decode cX12_save 30 = .ok (.iconst 1, 1) := by decide +kernel
theorem dX12_save_31 : decode cX12_save 31 = .ok (.iaload, 1) := by decide +kernel
theorem dX12_save_32 : decode cX12_save 32 = .ok (.ireturn, 1) := by decide +kernel
theorem dX12_restore_0 : decode cX12_restore 0 = .ok (.aload_n 0, 1) := by decide +kernel
theorem dX12_restore_1 : decode cX12_restore 1 = .ok (.aload_n 0, 1) := by decide +kernel
theorem dX12_restore_2 : decode cX12_restore 2 = .ok (.getfield 238, 3) := by decide +kernel
theorem dX12_restore_5 : decode cX12_restore 5 = .ok (.ifCond .eq 7, 3) := by decide +kernel
theorem dX12_restore_8 : decode cX12_restore 8 = .ok (.iconst 0, 1) := by decide +kernel
theorem dX12_restore_9 : decode cX12_restore 9 = .ok (.goto 4, 3) := by decide +kernel
theorem dX12_restore_12 : decode cX12_restore 12 = .ok (.iconst 1, 1) := by decide +kernel
theorem dX12_restore_13 : decode cX12_restore 13 = .ok (.putfield 39, 3) := by decide +kernel
theorem dX12_restore_16 : decode cX12_restore 16 = .ok (.aload_n 0, 1) := by decide +kernel
theorem dX12_restore_17 : decode cX12_restore 17 = .ok (.getfield 39, 3) := by decide +kernel
theorem dX12_restore_20 : decode cX12_restore 20 = .ok (.ifCond .le 5, 3) := by decide +kernel
theorem dX12_restore_23 : decode cX12_restore 23 = .ok (.iconst 0, 1) := by decide +kernel
theorem dX12_restore_24 : decode cX12_restore 24 = .ok (.ireturn, 1) := by decide +kernel
theorem dX12_restore_25 : decode cX12_restore 25 = .ok (.aload_n 0, 1) := by decide +kernel
theorem dX12_restore_26 : decode cX12_restore 26 = .ok (.getfield 16, 3) := by decide +kernel
theorem dX12_restore_29 : decode cX12_restore 29 = .ok (.iconst 0, 1) := by decide +kernel
theorem dX12_restore_30 : decode cX12_restore 30 = .ok (.aload_n 0, 1) := by decide +kernel
theorem dX12_restore_31 : decode cX12_restore 31 = .ok (.getfield 9, 3) := by decide +kernel
theorem dX12_restore_34 : decode cX12_restore 34 = .ok (.iconst 0, 1) := by decide +kernel
theorem dX12_restore_35 : decode cX12_restore 35 = .ok (.sipush 147, 3) := by decide +kernel
theorem dX12_restore_38 : decode cX12_restore 38 = .ok (.invokestatic 42, 3) := by decide +kernel
theorem dX12_restore_41 : decode cX12_restore 41 = .ok (.aload_n 0, 1) := by decide +kernel
theorem dX12_restore_42 : decode cX12_restore 42 = .ok (.iconst 0, 1) := by decide +kernel
theorem dX12_restore_43 : decode cX12_restore 43 = .ok (.putfield 48, 3) := by decide +kernel
theorem dX12_restore_46 : decode cX12_restore 46 = .ok (.aload_n 0, 1) := by decide +kernel
theorem dX12_restore_47 : decode cX12_restore 47 = .ok (.getfield 9, 3) := by decide +kernel
theorem dX12_restore_50 : decode cX12_restore 50 = .ok (.iconst 1, 1) := by decide +kernel
theorem dX12_restore_51 : decode cX12_restore 51 = .ok (.iaload, 1) := by decide +kernel
theorem dX12_restore_52 : decode cX12_restore 52 = .ok (.ireturn, 1) := by decide +kernel
