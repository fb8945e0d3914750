theorem dX1_init_0 : decode cX1_init 0 = .ok (.aload_n 0, 1) := by decide +kernel
theorem dX1_init_1 : decode cX1_init 1 = .ok (.invokespecial 3, 3) := by decide +kernel
theorem dX1_init_4 : decode cX1_init 4 = .ok (.aload_n 0, 1) := by decide +kernel
theorem dX1_init_5 : decode cX1_init 5 = .ok (.new 9, 3) := by decide +kernel
theorem dX1_init_8 : decode cX1_init 8 = .ok (.dup, 1) := by decide +kernel
theorem dX1_init_9 : decode cX1_init 9 = .ok (.bipush 20, 2) := by decide +kernel
theorem dX1_init_11 : decode cX1_init 11 = .ok (.invokespecial 11, 3) := by decide +kernel
theorem dX1_init_14 : decode cX1_init 14 = .ok (.putfield 14, 3) := by decide +kernel
theorem dX1_init_17 : decode cX1_init 17 = .ok (.aload_n 0, 1) := by decide +kernel
theorem dX1_init_18 : decode cX1_init 18 = .ok (.new 9, 3) := by decide +kernel
theorem dX1_init_21 : decode cX1_init 21 = .ok (.dup, 1) := by decide +kernel
theorem dX1_init_22 : decode cX1_init 22 = .ok (.bipush 20, 2) := by decide +kernel
theorem dX1_init_24 : decode cX1_init 24 = .ok (.invokespecial 11, 3) := by decide +kernel
theorem dX1_init_27 : decode cX1_init 27 = .ok (.putfield 20, 3) := by decide +kernel
theorem dX1_init_30 : decode cX1_init 30 = .ok (.aload_n 0, 1) := by decide +kernel
theorem dX1_init_31 : decode cX1_init 31 = .ok (.new 9, 3) := by decide +kernel
theorem dX1_init_34 : decode cX1_init 34 = .ok (.dup, 1) := by decide +kernel
theorem dX1_init_35 : decode cX1_init 35 = .ok (.bipush 20, 2) := by decide +kernel
theorem dX1_init_37 : decode cX1_init 37 = .ok (.invokespecial 11, 3) := by decide +kernel
theorem dX1_init_40 : decode cX1_init 40 = .ok (.putfield 23, 3) := by decide +kernel
theorem dX1_init_43 : decode cX1_init 43 = .ok (.aload_n 0, 1) := by decide +kernel
theorem dX1_init_44 : decode cX1_init 44 = .ok (.new 9, 3) := by decide +kernel
theorem dX1_init_47 : decode cX1_init 47 = .ok (.dup, 1) := by decide +kernel
theorem dX1_init_48 : decode cX1_init 48 = .ok (.bipush 20, 2) := by decide +kernel
theorem dX1_init_50 : decode cX1_init 50 = .ok (.invokespecial 11, 3) := by decide +kernel
theorem dX1_init_53 : decode cX1_init 53 = .ok (.putfield 26, 3) := by decide +kernel
theorem dX1_init_56 : decode cX1_init 56 = .ok (.aload_n 0, 1) := by decide +kernel
theorem dX1_init_57 : decode cX1_init 57 = .ok (.new 9, 3) := by decide +kernel
theorem dX1_init_60 : decode cX1_init 60 = .ok (.dup, 1) := by decide +kernel
theorem dX1_init_61 : decode cX1_init 61 = .ok (.bipush 20, 2) := by decide +kernel
theorem dX1_init_63 : decode cX1_init 63 = .ok (.invokespecial 11, 3) := by decide +kernel
theorem dX1_init_66 : decode cX1_init 66 = .ok (.putfield 29, 3) := by decide +kernel
theorem dX1_init_69 : decode cX1_init 69 = .ok (.aload_n 0, 1) := by decide +kernel
theorem dX1_init_70 : decode cX1_init 70 = .ok (.new 9, 3) := by decide +kernel
theorem dX1_init_73 : decode cX1_init 73 = .ok (.dup, 1) := by decide +kernel
theorem dX1_init_74 : decode cX1_init 74 = .ok (.bipush 20, 2) := by decide +kernel
theorem dX1_init_76 : decode cX1_init 76 = .ok (.invokespecial 11, 3) := by decide +kernel
theorem dX1_init_79 : decode cX1_init 79 = .ok (.putfield 32, 3) := by decide +kernel
theorem dX1_init_82 : decode cX1_init 82 = .ok (.aload_n 0, 1) := by decide +kernel
theorem dX1_init_83 : decode cX1_init 83 = .ok (.iconst 0, 1) := by decide +kernel
theorem dX1_init_84 : decode cX1_init 84 = .ok (.putfield 35, 3) := by decide +kernel
theorem dX1_init_87 : decode cX1_init 87 = .ok (.return_, 1) := by decide +kernel
theorem dX1_isFull_0 : decode cX1_isFull 0 = .ok (.aload_n 0, 1) := by decide +kernel
theorem dX1_isFull_1 : decode cX1_isFull 1 = .ok (.getfield 35, 3) := by decide +kernel
theorem dX1_isFull_4 : decode cX1_isFull 4 = .ok (.bipush 20, 2) := by decide +kernel
theorem dX1_isFull_6 : decode cX1_isFull 6 = .ok (.if_icmp .lt 7, 3) := by decide +kernel
theorem dX1_isFull_9 : decode cX1_isFull 9 = .ok (.iconst 1, 1) := by decide +kernel
theorem dX1_isFull_10 : decode cX1_isFull 10 = .ok (.goto 4, 3) := by decide +kernel
theorem dX1_isFull_13 : decode cX1_isFull 13 = .ok (.iconst 0, 1) := by decide +kernel
theorem dX1_isFull_14 : decode cX1_isFull 14 = .ok (.ireturn, 1) := by decide +kernel
theorem dX1_buys_0 : decode cX1_buys 0 = .ok (.aload_n 0, 1) := by decide +kernel
theorem dX1_buys_1 : decode cX1_buys 1 = .ok (.getfield 23, 3) := by decide +kernel
theorem dX1_buys_4 : decode cX1_buys 4 = .ok (.iload_n 1, 1) := by decide +kernel
theorem dX1_buys_5 : decode cX1_buys 5 = .ok (.invokevirtual 39, 3) := by decide +kernel
theorem dX1_buys_8 : decode cX1_buys 8 = .ok (.iconst 1, 1) := by decide +kernel
theorem dX1_buys_9 : decode cX1_buys 9 = .ok (.if_icmp .ne 7, 3) := by decide +kernel
theorem dX1_buys_12 : decode cX1_buys 12 = .ok (.iconst 1, 1) := by decide +kernel
theorem dX1_buys_13 : decode cX1_buys 13 = .ok (.goto 4, 3) := by decide +kernel
theorem dX1_buys_16 : decode cX1_buys 16 = .ok (.iconst 0, 1) := by decide +kernel
theorem dX1_buys_17 : decode cX1_buys 17 = .ok (.ireturn, 1) := by decide +kernel
theorem dX1_slotOf_0 : decode cX1_slotOf 0 = .ok (.iconst 0, 1) := by decide +kernel
theorem dX1_slotOf_1 : decode cX1_slotOf 1 = .ok (.istore_n 2, 1) := by decide +kernel
theorem dX1_slotOf_2 : decode cX1_slotOf 2 = .ok (.iload_n 2, 1) := by decide +kernel
theorem dX1_slotOf_3 : decode cX1_slotOf 3 = .ok (.aload_n 0, 1) := by decide +kernel
theorem dX1_slotOf_4 : decode cX1_slotOf 4 = .ok (.getfield 35, 3) := by decide +kernel
theorem dX1_slotOf_7 : decode cX1_slotOf 7 = .ok (.if_icmp .ge 23, 3) := by decide +kernel
theorem dX1_slotOf_10 : decode cX1_slotOf 10 = .ok (.aload_n 0, 1) := by decide +kernel
theorem dX1_slotOf_11 : decode cX1_slotOf 11 = .ok (.getfield 14, 3) := by decide +kernel
theorem dX1_slotOf_14 : decode cX1_slotOf 14 = .ok (.iload_n 2, 1) := by decide +kernel
theorem dX1_slotOf_15 : decode cX1_slotOf 15 = .ok (.invokevirtual 39, 3) := by decide +kernel
theorem dX1_slotOf_18 : decode cX1_slotOf 18 = .ok (.iload_n 1, 1) := by decide +kernel
theorem dX1_slotOf_19 : decode cX1_slotOf 19 = .ok (.if_icmp .ne 5, 3) := by decide +kernel
theorem dX1_slotOf_22 : decode cX1_slotOf 22 = .ok (.iload_n 2, 1) := by decide +kernel
theorem dX1_slotOf_23 : decode cX1_slotOf 23 = .ok (.ireturn, 1) := by decide +kernel
theorem dX1_slotOf_24 : decode cX1_slotOf 24 = .ok (.iinc 2 1, 3) := by decide +kernel
theorem dX1_slotOf_27 : decode cX1_slotOf 27 = .ok (.goto (-25), 3) := by decide +kernel
theorem dX1_slotOf_30 : decode cX1_slotOf 30 = .ok (.iconst (-1), 1) := by decide +kernel
theorem dX1_slotOf_31 : decode cX1_slotOf 31 = .ok (.ireturn, 1) := by decide +kernel
theorem dX1_enter_0 : decode cX1_enter 0 = .ok (.aload_n 0, 1) := by decide +kernel
theorem dX1_enter_1 : decode cX1_enter 1 = .ok (.getfield 14, 3) := by decide +kernel
theorem dX1_enter_4 : decode cX1_enter 4 = .ok (.aload_n 0, 1) := by decide +kernel
theorem dX1_enter_5 : decode cX1_enter 5 = .ok (.getfield 35, 3) := by decide +kernel
theorem dX1_enter_8 : decode cX1_enter 8 = .ok (.iload_n 1, 1) := by decide +kernel
theorem dX1_enter_9 : decode cX1_enter 9 = .ok (.invokevirtual 43, 3) := by decide +kernel
theorem dX1_enter_12 : decode cX1_enter 12 = .ok (.aload_n 0, 1) := by decide +kernel
theorem dX1_enter_13 : decode cX1_enter 13 = .ok (.getfield 20, 3) := by decide +kernel
theorem dX1_enter_16 : decode cX1_enter 16 = .ok (.aload_n 0, 1) := by decide +kernel
theorem dX1_enter_17 : decode cX1_enter 17 = .ok (.getfield 35, 3) := by decide +kernel
theorem dX1_enter_20 : decode cX1_enter 20 = .ok (.iload_n 2, 1) := by decide +kernel
theorem dX1_enter_21 : decode cX1_enter 21 = .ok (.invokevirtual 43, 3) := by decide +kernel
theorem dX1_enter_24 : decode cX1_enter 24 = .ok (.aload_n 0, 1) := by decide +kernel
theorem dX1_enter_25 : decode cX1_enter 25 = .ok (.getfield 23, 3) := by decide +kernel
theorem dX1_enter_28 : decode cX1_enter 28 = .ok (.aload_n 0, 1) := by decide +kernel
theorem dX1_enter_29 : decode cX1_enter 29 = .ok (.getfield 35, 3) := by decide +kernel
theorem dX1_enter_32 : decode cX1_enter 32 = .ok (.iload_n 3, 1) := by decide +kernel
theorem dX1_enter_33 : decode cX1_enter 33 = .ok (.ifCond .eq 7, 3) := by decide +kernel
theorem dX1_enter_36 : decode cX1_enter 36 = .ok (.iconst 1, 1) := by decide +kernel
theorem dX1_enter_37 : decode cX1_enter 37 = .ok (.goto 4, 3) := by decide +kernel
theorem dX1_enter_40 : decode cX1_enter 40 = .ok (.iconst 0, 1) := by decide +kernel
theorem dX1_enter_41 : decode cX1_enter 41 = .ok (.invokevirtual 43, 3) := by decide +kernel
theorem dX1_enter_44 : decode cX1_enter 44 = .ok (.aload_n 0, 1) := by decide +kernel
theorem dX1_enter_45 : decode cX1_enter 45 = .ok (.getfield 26, 3) := by decide +kernel
theorem dX1_enter_48 : decode cX1_enter 48 = .ok (.aload_n 0, 1) := by decide +kernel
theorem dX1_enter_49 : decode cX1_enter 49 = .ok (.getfield 35, 3) := by decide +kernel
theorem dX1_enter_52 : decode cX1_enter 52 = .ok (.iload 4, 2) := by decide +kernel
theorem dX1_enter_54 : decode cX1_enter 54 = .ok (.invokevirtual 43, 3) := by decide +kernel
theorem dX1_enter_57 : decode cX1_enter 57 = .ok (.aload_n 0, 1) := by decide +kernel
theorem dX1_enter_58 : decode cX1_enter 58 = .ok (.getfield 29, 3) := by decide +kernel
theorem dX1_enter_61 : decode cX1_enter 61 = .ok (.aload_n 0, 1) := by decide +kernel
theorem dX1_enter_62 : decode cX1_enter 62 = .ok (.getfield 35, 3) := by decide +kernel
theorem dX1_enter_65 : decode cX1_enter 65 = .ok (.iload 5, 2) := by decide +kernel
theorem dX1_enter_67 : decode cX1_enter 67 = .ok (.invokevirtual 43, 3) := by decide +kernel
theorem dX1_enter_70 : decode cX1_enter 70 = .ok (.aload_n 0, 1) := by decide +kernel
theorem dX1_enter_71 : decode cX1_enter 71 = .ok (.getfield 32, 3) := by decide +kernel
theorem dX1_enter_74 : decode cX1_enter 74 = .ok (.aload_n 0, 1) := by decide +kernel
theorem dX1_enter_75 : decode cX1_enter 75 = .ok (.getfield 35, 3) := by decide +kernel
theorem dX1_enter_78 : decode cX1_enter 78 = .ok (.iload 6, 2) := by decide +kernel
theorem dX1_enter_80 : decode cX1_enter 80 = .ok (.invokevirtual 43, 3) := by decide +kernel
theorem dX1_enter_83 : decode cX1_enter 83 = .ok (.aload_n 0, 1) := by decide +kernel
theorem dX1_enter_84 : decode cX1_enter 84 = .ok (.dup, 1) := by decide +kernel
theorem dX1_enter_85 : decode cX1_enter 85 = .ok (.getfield 35, 3) := by decide +kernel
theorem dX1_enter_88 : decode cX1_enter 88 = .ok (.iconst 1, 1) := by decide +kernel
theorem dX1_enter_89 : decode cX1_enter 89 = .ok (.iadd, 1) := by decide +kernel
theorem dX1_enter_90 : decode cX1_enter 90 = .ok (.putfield 35, 3) := by decide +kernel
theorem dX1_enter_93 : decode cX1_enter 93 = .ok (.return_, 1) := by decide +kernel
theorem dX1_remove_0 : decode cX1_remove 0 = .ok (.aload_n 0, 1) := by decide +kernel
theorem dX1_remove_1 : decode cX1_remove 1 = .ok (.getfield 14, 3) := by decide +kernel
theorem dX1_remove_4 : decode cX1_remove 4 = .ok (.iload_n 1, 1) := by decide +kernel
theorem dX1_remove_5 : decode cX1_remove 5 = .ok (.invokevirtual 47, 3) := by decide +kernel
theorem dX1_remove_8 : decode cX1_remove 8 = .ok (.aload_n 0, 1) := by decide +kernel
theorem dX1_remove_9 : decode cX1_remove 9 = .ok (.getfield 20, 3) := by decide +kernel
theorem dX1_remove_12 : decode cX1_remove 12 = .ok (.iload_n 1, 1) := by decide +kernel
theorem dX1_remove_13 : decode cX1_remove 13 = .ok (.invokevirtual 47, 3) := by decide +kernel
theorem dX1_remove_16 : decode cX1_remove 16 = .ok (.aload_n 0, 1) := by decide +kernel
theorem dX1_remove_17 : decode cX1_remove 17 = .ok (.getfield 23, 3) := by decide +kernel
theorem dX1_remove_20 : decode cX1_remove 20 = .ok (.iload_n 1, 1) := by decide +kernel
theorem dX1_remove_21 : decode cX1_remove 21 = .ok (.invokevirtual 47, 3) := by decide +kernel
theorem dX1_remove_24 : decode cX1_remove 24 = .ok (.aload_n 0, 1) := by decide +kernel
theorem dX1_remove_25 : decode cX1_remove 25 = .ok (.getfield 26, 3) := by decide +kernel
theorem dX1_remove_28 : decode cX1_remove 28 = .ok (.iload_n 1, 1) := by decide +kernel
theorem dX1_remove_29 : decode cX1_remove 29 = .ok (.invokevirtual 47, 3) := by decide +kernel
theorem dX1_remove_32 : decode cX1_remove 32 = .ok (.aload_n 0, 1) := by decide +kernel
theorem dX1_remove_33 : decode cX1_remove 33 = .ok (.getfield 29, 3) := by decide +kernel
theorem dX1_remove_36 : decode cX1_remove 36 = .ok (.iload_n 1, 1) := by decide +kernel
theorem dX1_remove_37 : decode cX1_remove 37 = .ok (.invokevirtual 47, 3) := by decide +kernel
theorem dX1_remove_40 : decode cX1_remove 40 = .ok (.aload_n 0, 1) := by decide +kernel
theorem dX1_remove_41 : decode cX1_remove 41 = .ok (.getfield 32, 3) := by decide +kernel
theorem dX1_remove_44 : decode cX1_remove 44 = .ok (.iload_n 1, 1) := by decide +kernel
theorem dX1_remove_45 : decode cX1_remove 45 = .ok (.invokevirtual 47, 3) := by decide +kernel
theorem dX1_remove_48 : decode cX1_remove 48 = .ok (.aload_n 0, 1) := by decide +kernel
theorem dX1_remove_49 : decode cX1_remove 49 = .ok (.dup, 1) := by decide +kernel
theorem dX1_remove_50 : decode cX1_remove 50 = .ok (.getfield 35, 3) := by decide +kernel
theorem dX1_remove_53 : decode cX1_remove 53 = .ok (.iconst 1, 1) := by decide +kernel
theorem dX1_remove_54 : decode cX1_remove 54 = .ok (.isub, 1) := by decide +kernel
theorem dX1_remove_55 : decode cX1_remove 55 = .ok (.putfield 35, 3) := by decide +kernel
theorem dX1_remove_58 : decode cX1_remove 58 = .ok (.return_, 1) := by decide +kernel
theorem dX1_reduce_0 : decode cX1_reduce 0 = .ok (.aload_n 0, 1) := by decide +kernel
theorem dX1_reduce_1 : decode cX1_reduce 1 = .ok (.getfield 29, 3) := by decide +kernel
theorem dX1_reduce_4 : decode cX1_reduce 4 = .ok (.iload_n 1, 1) := by decide +kernel
theorem dX1_reduce_5 : decode cX1_reduce 5 = .ok (.iload_n 2, 1) := by decide +kernel
theorem dX1_reduce_6 : decode cX1_reduce 6 = .ok (.ineg, 1) := by decide +kernel
theorem dX1_reduce_7 : decode cX1_reduce 7 = .ok (.invokevirtual 50, 3) := by decide +kernel
theorem dX1_reduce_10 : decode cX1_reduce 10 = .ok (.aload_n 0, 1) := by decide +kernel
theorem dX1_reduce_11 : decode cX1_reduce 11 = .ok (.getfield 29, 3) := by decide +kernel
theorem dX1_reduce_14 : decode cX1_reduce 14 = .ok (.iload_n 1, 1) := by decide +kernel
theorem dX1_reduce_15 : decode cX1_reduce 15 = .ok (.invokevirtual 39, 3) := by decide +kernel
theorem dX1_reduce_18 : decode cX1_reduce 18 = .ok (.ifCond .ne 8, 3) := by decide +kernel
theorem dX1_reduce_21 : decode cX1_reduce 21 = .ok (.aload_n 0, 1) := by decide +kernel
theorem dX1_reduce_22 : decode cX1_reduce 22 = .ok (.iload_n 1, 1) := by decide +kernel
theorem dX1_reduce_23 : decode cX1_reduce 23 = .ok (.invokevirtual 53, 3) := by decide +kernel
theorem dX1_reduce_26 : decode cX1_reduce 26 = .ok (.return_, 1) := by decide +kernel
theorem dX1_clear_0 : decode cX1_clear 0 = .ok (.aload_n 0, 1) := by decide +kernel
theorem dX1_clear_1 : decode cX1_clear 1 = .ok (.iconst 0, 1) := by decide +kernel
theorem dX1_clear_2 : decode cX1_clear 2 = .ok (.putfield 35, 3) := by decide +kernel
theorem dX1_clear_5 : decode cX1_clear 5 = .ok (.return_, 1) := by decide +kernel
theorem dX1_bestSlot_0 : decode cX1_bestSlot 0 = .ok (.iconst (-1), 1) := by decide +kernel
theorem dX1_bestSlot_1 : decode cX1_bestSlot 1 = .ok (.istore_n 2, 1) := by decide +kernel
theorem dX1_bestSlot_2 : decode cX1_bestSlot 2 = .ok (.iconst 0, 1) := by decide +kernel
theorem dX1_bestSlot_3 : decode cX1_bestSlot 3 = .ok (.istore_n 3, 1) := by decide +kernel
theorem dX1_bestSlot_4 : decode cX1_bestSlot 4 = .ok (.iload_n 3, 1) := by decide +kernel
theorem dX1_bestSlot_5 : decode cX1_bestSlot 5 = .ok (.aload_n 0, 1) := by decide +kernel
theorem dX1_bestSlot_6 : decode cX1_bestSlot 6 = .ok (.getfield 35, 3) := by decide +kernel
theorem dX1_bestSlot_9 : decode cX1_bestSlot 9 = .ok (.if_icmp .ge 35, 3) := by decide +kernel
theorem dX1_bestSlot_12 : decode cX1_bestSlot 12 = .ok (.aload_n 0, 1) := by decide +kernel
theorem dX1_bestSlot_13 : decode cX1_bestSlot 13 = .ok (.iload_n 3, 1) := by decide +kernel
theorem dX1_bestSlot_14 : decode cX1_bestSlot 14 = .ok (.invokevirtual 56, 3) := by decide +kernel
theorem dX1_bestSlot_17 : decode cX1_bestSlot 17 = .ok (.iload_n 1, 1) := by decide +kernel
theorem dX1_bestSlot_18 : decode cX1_bestSlot 18 = .ok (.if_icmp .ne 20, 3) := by decide +kernel
theorem dX1_bestSlot_21 : decode cX1_bestSlot 21 = .ok (.iload_n 2, 1) := by decide +kernel
theorem dX1_bestSlot_22 : decode cX1_bestSlot 22 = .ok (.iconst (-1), 1) := by decide +kernel
theorem dX1_bestSlot_23 : decode cX1_bestSlot 23 = .ok (.if_icmp .eq 13, 3) := by decide +kernel
theorem dX1_bestSlot_26 : decode cX1_bestSlot 26 = .ok (.aload_n 0, 1) := by decide +kernel
theorem dX1_bestSlot_27 : decode cX1_bestSlot 27 = .ok (.iload_n 1, 1) := by decide +kernel
theorem dX1_bestSlot_28 : decode cX1_bestSlot 28 = .ok (.iload_n 3, 1) := by decide +kernel
theorem dX1_bestSlot_29 : decode cX1_bestSlot 29 = .ok (.iload_n 2, 1) := by decide +kernel
theorem dX1_bestSlot_30 : decode cX1_bestSlot 30 = .ok (.invokevirtual 60, 3) := by decide +kernel
theorem dX1_bestSlot_33 : decode cX1_bestSlot 33 = .ok (.ifCond .eq 5, 3) := by decide +kernel
theorem dX1_bestSlot_36 : decode cX1_bestSlot 36 = .ok (.iload_n 3, 1) := by decide +kernel
theorem dX1_bestSlot_37 : decode cX1_bestSlot 37 = .ok (.istore_n 2, 1) := by decide +kernel
theorem dX1_bestSlot_38 : decode cX1_bestSlot 38 = .ok (.iinc 3 1, 3) := by decide +kernel
theorem dX1_bestSlot_41 : decode cX1_bestSlot 41 = .ok (.goto (-37), 3) := by decide +kernel
theorem dX1_bestSlot_44 : decode cX1_bestSlot 44 = .ok (.iload_n 2, 1) := by decide +kernel
theorem dX1_bestSlot_45 : decode cX1_bestSlot 45 = .ok (.ireturn, 1) := by decide +kernel
theorem dX1_isAhead_0 : decode cX1_isAhead 0 = .ok (.aload_n 0, 1) := by decide +kernel
theorem dX1_isAhead_1 : decode cX1_isAhead 1 = .ok (.getfield 26, 3) := by decide +kernel
theorem dX1_isAhead_4 : decode cX1_isAhead 4 = .ok (.iload_n 2, 1) := by decide +kernel
theorem dX1_isAhead_5 : decode cX1_isAhead 5 = .ok (.invokevirtual 39, 3) := by decide +kernel
theorem dX1_isAhead_8 : decode cX1_isAhead 8 = .ok (.aload_n 0, 1) := by decide +kernel
theorem dX1_isAhead_9 : decode cX1_isAhead 9 = .ok (.getfield 26, 3) := by decide +kernel
theorem dX1_isAhead_12 : decode cX1_isAhead 12 = .ok (.iload_n 3, 1) := by decide +kernel
theorem dX1_isAhead_13 : decode cX1_isAhead 13 = .ok (.invokevirtual 39, 3) := by decide +kernel
theorem dX1_isAhead_16 : decode cX1_isAhead 16 = .ok (.isub, 1) := by decide +kernel
theorem dX1_isAhead_17 : decode cX1_isAhead 17 = .ok (.istore 4, 2) := by decide +kernel
theorem dX1_isAhead_19 : decode cX1_isAhead 19 = .ok (.iload_n 1, 1) := by decide +kernel
theorem dX1_isAhead_20 : decode cX1_isAhead 20 = .ok (.ifCond .eq 16, 3) := by decide +kernel
theorem dX1_isAhead_23 : decode cX1_isAhead 23 = .ok (.iload 4, 2) := by decide +kernel
theorem dX1_isAhead_25 : decode cX1_isAhead 25 = .ok (.ifCond .le 7, 3) := by decide +kernel
theorem dX1_isAhead_28 : decode cX1_isAhead 28 = .ok (.iconst 1, 1) := by decide +kernel
theorem dX1_isAhead_29 : decode cX1_isAhead 29 = .ok (.goto 17, 3) := by decide +kernel
theorem dX1_isAhead_32 : decode cX1_isAhead 32 = .ok (.iconst 0, 1) := by decide +kernel
theorem dX1_isAhead_33 : decode cX1_isAhead 33 = .ok (.goto 13, 3) := by decide +kernel
theorem dX1_isAhead_36 : decode cX1_isAhead 36 = .ok (.iload 4, 2) := by decide +kernel
theorem dX1_isAhead_38 : decode cX1_isAhead 38 = .ok (.ifCond .ge 7, 3) := by decide +kernel
theorem dX1_isAhead_41 : decode cX1_isAhead 41 = .ok (.iconst 1, 1) := by decide +kernel
theorem dX1_isAhead_42 : decode cX1_isAhead 42 = .ok (.goto 4, 3) := by decide +kernel
theorem dX1_isAhead_45 : decode cX1_isAhead 45 = .ok (.iconst 0, 1) := by decide +kernel
theorem dX1_isAhead_46 : decode cX1_isAhead 46 = .ok (.ireturn, 1) := by decide +kernel
theorem dX1_spreadOfBest_0 : decode cX1_spreadOfBest 0 = .ok (.aload_n 0, 1) := by decide +kernel
theorem dX1_spreadOfBest_1 : decode cX1_spreadOfBest 1 = .ok (.iconst 1, 1) := by decide +kernel
theorem dX1_spreadOfBest_2 : decode cX1_spreadOfBest 2 = .ok (.invokevirtual 64, 3) := by decide +kernel
theorem dX1_spreadOfBest_5 : decode cX1_spreadOfBest 5 = .ok (.istore_n 1, 1) := by decide +kernel
theorem dX1_spreadOfBest_6 : decode cX1_spreadOfBest 6 = .ok (.aload_n 0, 1) := by decide +kernel
theorem dX1_spreadOfBest_7 : decode cX1_spreadOfBest 7 = .ok (.iconst 0, 1) := by decide +kernel
theorem dX1_spreadOfBest_8 : decode cX1_spreadOfBest 8 = .ok (.invokevirtual 64, 3) := by decide +kernel
theorem dX1_spreadOfBest_11 : decode cX1_spreadOfBest 11 = .ok (.istore_n 2, 1) := by decide +kernel
theorem dX1_spreadOfBest_12 : decode cX1_spreadOfBest 12 = .ok (.iload_n 1, 1) := by decide +kernel
theorem dX1_spreadOfBest_13 : decode cX1_spreadOfBest 13 = .ok (.iconst (-1), 1) := by decide +kernel
theorem dX1_spreadOfBest_14 : decode cX1_spreadOfBest 14 = .ok (.if_icmp .eq 8, 3) := by decide +kernel
theorem dX1_spreadOfBest_17 : decode cX1_spreadOfBest 17 = .ok (.iload_n 2, 1) := by decide +kernel
theorem dX1_spreadOfBest_18 : decode cX1_spreadOfBest 18 = .ok (.iconst (-1), 1) := by decide +kernel
theorem dX1_spreadOfBest_19 : decode cX1_spreadOfBest 19 = .ok (.if_icmp .ne 9, 3) := by decide +kernel
theorem dX1_spreadOfBest_22 : decode cX1_spreadOfBest 22 = .ok (.sipush 1000, 3) := by decide +kernel
theorem dX1_spreadOfBest_25 : decode cX1_spreadOfBest 25 = .ok (.goto 20, 3) := by decide +kernel
theorem dX1_spreadOfBest_28 : decode cX1_spreadOfBest 28 = .ok (.aload_n 0, 1) := by decide +kernel
theorem dX1_spreadOfBest_29 : decode cX1_spreadOfBest 29 = .ok (.getfield 26, 3) := by decide +kernel
theorem dX1_spreadOfBest_32 : decode cX1_spreadOfBest 32 = .ok (.iload_n 2, 1) := by decide +kernel
theorem dX1_spreadOfBest_33 : decode cX1_spreadOfBest 33 = .ok (.invokevirtual 39, 3) := by decide +kernel
theorem dX1_spreadOfBest_36 : decode cX1_spreadOfBest 36 = .ok (.aload_n 0, 1) := by decide +kernel
theorem dX1_spreadOfBest_37 : decode cX1_spreadOfBest 37 = .ok (.getfield 26, 3) := by decide +kernel
theorem dX1_spreadOfBest_40 : decode cX1_spreadOfBest 40 = .ok (.iload_n 1, 1) := by decide +kernel
theorem dX1_spreadOfBest_41 : decode cX1_spreadOfBest 41 = .ok (.invokevirtual 39, 3) := by decide +kernel
theorem dX1_spreadOfBest_44 : decode cX1_spreadOfBest 44 = .ok (.isub, 1) := by decide +kernel
theorem dX1_spreadOfBest_45 : decode cX1_spreadOfBest 45 = .ok (.ireturn, 1) := by decide +kernel
theorem dX1_buyingOrders_0 : decode cX1_buyingOrders 0 = .ok (.iconst 0, 1) := by decide +kernel
theorem dX1_buyingOrders_1 : decode cX1_buyingOrders 1 = .ok (.istore_n 1, 1) := by decide +kernel
theorem dX1_buyingOrders_2 : decode cX1_buyingOrders 2 = .ok (.iconst 0, 1) := by decide +kernel
theorem dX1_buyingOrders_3 : decode cX1_buyingOrders 3 = .ok (.istore_n 2, 1) := by decide +kernel
theorem dX1_buyingOrders_4 : decode cX1_buyingOrders 4 = .ok (.iload_n 2, 1) := by decide +kernel
theorem dX1_buyingOrders_5 : decode cX1_buyingOrders 5 = .ok (.aload_n 0, 1) := by decide +kernel
theorem dX1_buyingOrders_6 : decode cX1_buyingOrders 6 = .ok (.getfield 35, 3) := by decide +kernel
theorem dX1_buyingOrders_9 : decode cX1_buyingOrders 9 = .ok (.if_icmp .ge 20, 3) := by decide +kernel
theorem dX1_buyingOrders_12 : decode cX1_buyingOrders 12 = .ok (.aload_n 0, 1) := by decide +kernel
theorem dX1_buyingOrders_13 : decode cX1_buyingOrders 13 = .ok (.iload_n 2, 1) := by decide +kernel
theorem dX1_buyingOrders_14 : decode cX1_buyingOrders 14 = .ok (.invokevirtual 56, 3) := by decide +kernel
theorem dX1_buyingOrders_17 : decode cX1_buyingOrders 17 = .ok (.ifCond .eq 6, 3) := by decide +kernel
theorem dX1_buyingOrders_20 : decode cX1_buyingOrders 20 = .ok (.iinc 1 1, 3) := by decide +kernel
theorem dX1_buyingOrders_23 : decode cX1_buyingOrders 23 = .ok (.iinc 2 1, 3) := by decide +kernel
theorem dX1_buyingOrders_26 : decode cX1_buyingOrders 26 = .ok (.goto (-22), 3) := by decide +kernel
theorem dX1_buyingOrders_29 : decode cX1_buyingOrders 29 = .ok (.iload_n 1, 1) := by decide +kernel
theorem dX1_buyingOrders_30 : decode cX1_buyingOrders 30 = .ok (.ireturn, 1) := by decide +kernel
theorem dX1_quantityAt_0 : decode cX1_quantityAt 0 = .ok (.iconst 0, 1) := by decide +kernel
theorem dX1_quantityAt_1 : decode cX1_quantityAt 1 = .ok (.istore_n 3, 1) := by decide +kernel
theorem dX1_quantityAt_2 : decode cX1_quantityAt 2 = .ok (.iconst 0, 1) := by decide +kernel
theorem dX1_quantityAt_3 : decode cX1_quantityAt 3 = .ok (.istore 4, 2) := by decide +kernel
theorem dX1_quantityAt_5 : decode cX1_quantityAt 5 = .ok (.iload 4, 2) := by decide +kernel
theorem dX1_quantityAt_7 : decode cX1_quantityAt 7 = .ok (.aload_n 0, 1) := by decide +kernel
theorem dX1_quantityAt_8 : decode cX1_quantityAt 8 = .ok (.getfield 35, 3) := by decide +kernel
theorem dX1_quantityAt_11 : decode cX1_quantityAt 11 = .ok (.if_icmp .ge 44, 3) := by decide +kernel
theorem dX1_quantityAt_14 : decode cX1_quantityAt 14 = .ok (.aload_n 0, 1) := by decide +kernel
theorem dX1_quantityAt_15 : decode cX1_quantityAt 15 = .ok (.iload 4, 2) := by decide +kernel
theorem dX1_quantityAt_17 : decode cX1_quantityAt 17 = .ok (.invokevirtual 56, 3) := by decide +kernel
theorem dX1_quantityAt_20 : decode cX1_quantityAt 20 = .ok (.iload_n 1, 1) := by decide +kernel
theorem dX1_quantityAt_21 : decode cX1_quantityAt 21 = .ok (.if_icmp .ne 28, 3) := by decide +kernel
theorem dX1_quantityAt_24 : decode cX1_quantityAt 24 = .ok (.aload_n 0, 1) := by decide +kernel
theorem dX1_quantityAt_25 : decode cX1_quantityAt 25 = .ok (.getfield 26, 3) := by decide +kernel
theorem dX1_quantityAt_28 : decode cX1_quantityAt 28 = .ok (.iload 4, 2) := by decide +kernel
theorem dX1_quantityAt_30 : decode cX1_quantityAt 30 = .ok (.invokevirtual 39, 3) := by decide +kernel
theorem dX1_quantityAt_33 : decode cX1_quantityAt 33 = .ok (.iload_n 2, 1) := by decide +kernel
theorem dX1_quantityAt_34 : decode cX1_quantityAt 34 = .ok (.if_icmp .ne 15, 3) := by decide +kernel
theorem dX1_quantityAt_37 : decode cX1_quantityAt 37 = .ok (.iload_n 3, 1) := by decide +kernel
theorem dX1_quantityAt_38 : decode cX1_quantityAt 38 = .ok (.aload_n 0, 1) := by decide +kernel
theorem dX1_quantityAt_39 : decode cX1_quantityAt 39 = .ok (.getfield 29, 3) := by decide +kernel
theorem dX1_quantityAt_42 : decode cX1_quantityAt 42 = .ok (.iload 4, 2) := by decide +kernel
theorem dX1_quantityAt_44 : decode cX1_quantityAt 44 = .ok (.invokevirtual 39, 3) := by decide +kernel
theorem dX1_quantityAt_47 : decode cX1_quantityAt 47 = .ok (.iadd, 1) := by decide +kernel
theorem dX1_quantityAt_48 : decode cX1_quantityAt 48 = .ok (.istore_n 3, 1) := by decide +kernel
theorem dX1_quantityAt_49 : decode cX1_quantityAt 49 = .ok (.iinc 4 1, 3) := by decide +kernel
theorem dX1_quantityAt_52 : decode cX1_quantityAt 52 = .ok (.goto (-47), 3) := by decide +kernel
theorem dX1_quantityAt_55 : decode cX1_quantityAt 55 = .ok (.iload_n 3, 1) := by decide +kernel
theorem dX1_quantityAt_56 : decode cX1_quantityAt 56 = .ok (.ireturn, 1) := by decide +kernel
theorem dX1_boundMoney_0 : decode cX1_boundMoney 0 = .ok (.iconst 0, 1) := by decide +kernel
theorem dX1_boundMoney_1 : decode cX1_boundMoney 1 = .ok (.istore_n 2, 1) := by decide +kernel
theorem dX1_boundMoney_2 : decode cX1_boundMoney 2 = .ok (.iconst 0, 1) := by decide +kernel
theorem dX1_boundMoney_3 : decode cX1_boundMoney 3 = .ok (.istore_n 3, 1) := by decide +kernel
theorem dX1_boundMoney_4 : decode cX1_boundMoney 4 = .ok (.iload_n 3, 1) := by decide +kernel
theorem dX1_boundMoney_5 : decode cX1_boundMoney 5 = .ok (.aload_n 0, 1) := by decide +kernel
theorem dX1_boundMoney_6 : decode cX1_boundMoney 6 = .ok (.getfield 35, 3) := by decide +kernel
theorem dX1_boundMoney_9 : decode cX1_boundMoney 9 = .ok (.if_icmp .ge 49, 3) := by decide +kernel
theorem dX1_boundMoney_12 : decode cX1_boundMoney 12 = .ok (.aload_n 0, 1) := by decide +kernel
theorem dX1_boundMoney_13 : decode cX1_boundMoney 13 = .ok (.iload_n 3, 1) := by decide +kernel
theorem dX1_boundMoney_14 : decode cX1_boundMoney 14 = .ok (.invokevirtual 56, 3) := by decide +kernel
theorem dX1_boundMoney_17 : decode cX1_boundMoney 17 = .ok (.ifCond .eq 35, 3) := by decide +kernel
theorem dX1_boundMoney_20 : decode cX1_boundMoney 20 = .ok (.aload_n 0, 1) := by decide +kernel
theorem dX1_boundMoney_21 : decode cX1_boundMoney 21 = .ok (.getfield 20, 3) := by decide +kernel
theorem dX1_boundMoney_24 : decode cX1_boundMoney 24 = .ok (.iload_n 3, 1) := by decide +kernel
theorem dX1_boundMoney_25 : decode cX1_boundMoney 25 = .ok (.invokevirtual 39, 3) := by decide +kernel
theorem dX1_boundMoney_28 : decode cX1_boundMoney 28 = .ok (.iload_n 1, 1) := by decide +kernel
theorem dX1_boundMoney_29 : decode cX1_boundMoney 29 = .ok (.if_icmp .ne 23, 3) := by decide +kernel
theorem dX1_boundMoney_32 : decode cX1_boundMoney 32 = .ok (.iload_n 2, 1) := by decide +kernel
theorem dX1_boundMoney_33 : decode cX1_boundMoney 33 = .ok (.aload_n 0, 1) := by decide +kernel
theorem dX1_boundMoney_34 : decode cX1_boundMoney 34 = .ok (.getfield 26, 3) := by decide +kernel
theorem dX1_boundMoney_37 : decode cX1_boundMoney 37 = .ok (.iload_n 3, 1) := by decide +kernel
theorem dX1_boundMoney_38 : decode cX1_boundMoney 38 = .ok (.invokevirtual 39, 3) := by decide +kernel
theorem dX1_boundMoney_41 : decode cX1_boundMoney 41 = .ok (.aload_n 0, 1) := by decide +kernel
theorem dX1_boundMoney_42 : decode cX1_boundMoney 42 = .ok (.getfield 29, 3) := by decide +kernel
theorem dX1_boundMoney_45 : decode cX1_boundMoney 45 = .ok (.iload_n 3, 1) := by decide +kernel
theorem dX1_boundMoney_46 : decode cX1_boundMoney 46 = .ok (.invokevirtual 39, 3) := by decide +kernel
theorem dX1_boundMoney_49 : decode cX1_boundMoney 49 = .ok (.imul, 1) := by decide +kernel
theorem dX1_boundMoney_50 : decode cX1_boundMoney 50 = .ok (.iadd, 1) := by decide +kernel
theorem dX1_boundMoney_51 : decode cX1_boundMoney 51 = .ok (.istore_n 2, 1) := by decide +kernel
theorem dX1_boundMoney_52 : decode cX1_boundMoney 52 = .ok (.iinc 3 1, 3) := by decide +kernel
theorem dX1_boundMoney_55 : decode cX1_boundMoney 55 = .ok (.goto (-51), 3) := by decide +kernel
theorem dX1_boundMoney_58 : decode cX1_boundMoney 58 = .ok (.iload_n 2, 1) := by decide +kernel
theorem dX1_boundMoney_59 : decode cX1_boundMoney 59 = .ok (.ireturn, 1) := by decide +kernel
theorem dX1_boundDrops_0 : decode cX1_boundDrops 0 = .ok (.iconst 0, 1) := by decide +kernel
theorem dX1_boundDrops_1 : decode cX1_boundDrops 1 = .ok (.istore_n 2, 1) := by decide +kernel
theorem dX1_boundDrops_2 : decode cX1_boundDrops 2 = .ok (.iconst 0, 1) := by decide +kernel
theorem dX1_boundDrops_3 : decode cX1_boundDrops 3 = .ok (.istore_n 3, 1) := by decide +kernel
theorem dX1_boundDrops_4 : decode cX1_boundDrops 4 = .ok (.iload_n 3, 1) := by decide +kernel
theorem dX1_boundDrops_5 : decode cX1_boundDrops 5 = .ok (.aload_n 0, 1) := by decide +kernel
theorem dX1_boundDrops_6 : decode cX1_boundDrops 6 = .ok (.getfield 35, 3) := by decide +kernel
theorem dX1_boundDrops_9 : decode cX1_boundDrops 9 = .ok (.if_icmp .ge 40, 3) := by decide +kernel
theorem dX1_boundDrops_12 : decode cX1_boundDrops 12 = .ok (.aload_n 0, 1) := by decide +kernel
theorem dX1_boundDrops_13 : decode cX1_boundDrops 13 = .ok (.iload_n 3, 1) := by decide +kernel
theorem dX1_boundDrops_14 : decode cX1_boundDrops 14 = .ok (.invokevirtual 56, 3) := by decide +kernel
theorem dX1_boundDrops_17 : decode cX1_boundDrops 17 = .ok (.ifCond .ne 26, 3) := by decide +kernel
theorem dX1_boundDrops_20 : decode cX1_boundDrops 20 = .ok (.aload_n 0, 1) := by decide +kernel
theorem dX1_boundDrops_21 : decode cX1_boundDrops 21 = .ok (.getfield 20, 3) := by decide +kernel
theorem dX1_boundDrops_24 : decode cX1_boundDrops 24 = .ok (.iload_n 3, 1) := by decide +kernel
theorem dX1_boundDrops_25 : decode cX1_boundDrops 25 = .ok (.invokevirtual 39, 3) := by decide +kernel
theorem dX1_boundDrops_28 : decode cX1_boundDrops 28 = .ok (.iload_n 1, 1) := by decide +kernel
theorem dX1_boundDrops_29 : decode cX1_boundDrops 29 = .ok (.if_icmp .ne 14, 3) := by decide +kernel
theorem dX1_boundDrops_32 : decode cX1_boundDrops 32 = .ok (.iload_n 2, 1) := by decide +kernel
theorem dX1_boundDrops_33 : decode cX1_boundDrops 33 = .ok (.aload_n 0, 1) := by decide +kernel
theorem dX1_boundDrops_34 : decode cX1_boundDrops 34 = .ok (.getfield 29, 3) := by decide +kernel
theorem dX1_boundDrops_37 : decode cX1_boundDrops 37 = .ok (.iload_n 3, 1) := by decide +kernel
theorem dX1_boundDrops_38 : decode cX1_boundDrops 38 = .ok (.invokevirtual 39, 3) := by decide +kernel
theorem dX1_boundDrops_41 : decode cX1_boundDrops 41 = .ok (.iadd, 1) := by decide +kernel
theorem dX1_boundDrops_42 : decode cX1_boundDrops 42 = .ok (.istore_n 2, 1) := by decide +kernel
theorem dX1_boundDrops_43 : decode cX1_boundDrops 43 = .ok (.iinc 3 1, 3) := by decide +kernel
theorem dX1_boundDrops_46 : decode cX1_boundDrops 46 = .ok (.goto (-42), 3) := by decide +kernel
theorem dX1_boundDrops_49 : decode cX1_boundDrops 49 = .ok (.iload_n 2, 1) := by decide +kernel
theorem dX1_boundDrops_50 : decode cX1_boundDrops 50 = .ok (.ireturn, 1) := by decide +kernel
theorem dX1_demand_0 : decode cX1_demand 0 = .ok (.iconst 0, 1) := by decide +kernel
theorem dX1_demand_1 : decode cX1_demand 1 = .ok (.istore_n 2, 1) := by decide +kernel
theorem dX1_demand_2 : decode cX1_demand 2 = .ok (.iconst 0, 1) := by decide +kernel
theorem dX1_demand_3 : decode cX1_demand 3 = .ok (.istore_n 3, 1) := by decide +kernel
theorem dX1_demand_4 : decode cX1_demand 4 = .ok (.iload_n 3, 1) := by decide +kernel
theorem dX1_demand_5 : decode cX1_demand 5 = .ok (.aload_n 0, 1) := by decide +kernel
theorem dX1_demand_6 : decode cX1_demand 6 = .ok (.getfield 35, 3) := by decide +kernel
theorem dX1_demand_9 : decode cX1_demand 9 = .ok (.if_icmp .ge 40, 3) := by decide +kernel
theorem dX1_demand_12 : decode cX1_demand 12 = .ok (.aload_n 0, 1) := by decide +kernel
theorem dX1_demand_13 : decode cX1_demand 13 = .ok (.iload_n 3, 1) := by decide +kernel
theorem dX1_demand_14 : decode cX1_demand 14 = .ok (.invokevirtual 56, 3) := by decide +kernel
theorem dX1_demand_17 : decode cX1_demand 17 = .ok (.ifCond .eq 26, 3) := by decide +kernel
theorem dX1_demand_20 : decode cX1_demand 20 = .ok (.aload_n 0, 1) := by decide +kernel
theorem dX1_demand_21 : decode cX1_demand 21 = .ok (.getfield 26, 3) := by decide +kernel
theorem dX1_demand_24 : decode cX1_demand 24 = .ok (.iload_n 3, 1) := by decide +kernel
theorem dX1_demand_25 : decode cX1_demand 25 = .ok (.invokevirtual 39, 3) := by decide +kernel
theorem dX1_demand_28 : decode cX1_demand 28 = .ok (.iload_n 1, 1) := by decide +kernel
theorem dX1_demand_29 : decode cX1_demand 29 = .ok (.if_icmp .lt 14, 3) := by decide +kernel
theorem dX1_demand_32 : decode cX1_demand 32 = .ok (.iload_n 2, 1) := by decide +kernel
theorem dX1_demand_33 : decode cX1_demand 33 = .ok (.aload_n 0, 1) := by decide +kernel
theorem dX1_demand_34 : decode cX1_demand 34 = .ok (.getfield 29, 3) := by decide +kernel
theorem dX1_demand_37 : decode cX1_demand 37 = .ok (.iload_n 3, 1) := by decide +kernel
theorem dX1_demand_38 : decode cX1_demand 38 = .ok (.invokevirtual 39, 3) := by decide +kernel
theorem dX1_demand_41 : decode cX1_demand 41 = .ok (.iadd, 1) := by decide +kernel
theorem dX1_demand_42 : decode cX1_demand 42 = .ok (.istore_n 2, 1) := by decide +kernel
theorem dX1_demand_43 : decode cX1_demand 43 = .ok (.iinc 3 1, 3) := by decide +kernel
theorem dX1_demand_46 : decode cX1_demand 46 = .ok (.goto (-42), 3) := by decide +kernel
theorem dX1_demand_49 : decode cX1_demand 49 = .ok (.iload_n 2, 1) := by decide +kernel
theorem dX1_demand_50 : decode cX1_demand 50 = .ok (.ireturn, 1) := by decide +kernel
theorem dX1_supply_0 : decode cX1_supply 0 = .ok (.iconst 0, 1) := by decide +kernel
theorem dX1_supply_1 : decode cX1_supply 1 = .ok (.istore_n 2, 1) := by decide +kernel
theorem dX1_supply_2 : decode cX1_supply 2 = .ok (.iconst 0, 1) := by decide +kernel
theorem dX1_supply_3 : decode cX1_supply 3 = .ok (.istore_n 3, 1) := by decide +kernel
theorem dX1_supply_4 : decode cX1_supply 4 = .ok (.iload_n 3, 1) := by decide +kernel
theorem dX1_supply_5 : decode cX1_supply 5 = .ok (.aload_n 0, 1) := by decide +kernel
theorem dX1_supply_6 : decode cX1_supply 6 = .ok (.getfield 35, 3) := by decide +kernel
theorem dX1_supply_9 : decode cX1_supply 9 = .ok (.if_icmp .ge 40, 3) := by decide +kernel
theorem dX1_supply_12 : decode cX1_supply 12 = .ok (.aload_n 0, 1) := by decide +kernel
theorem dX1_supply_13 : decode cX1_supply 13 = .ok (.iload_n 3, 1) := by decide +kernel
theorem dX1_supply_14 : decode cX1_supply 14 = .ok (.invokevirtual 56, 3) := by decide +kernel
theorem dX1_supply_17 : decode cX1_supply 17 = .ok (.ifCond .ne 26, 3) := by decide +kernel
theorem dX1_supply_20 : decode cX1_supply 20 = .ok (.aload_n 0, 1) := by decide +kernel
theorem dX1_supply_21 : decode cX1_supply 21 = .ok (.getfield 26, 3) := by decide +kernel
theorem dX1_supply_24 : decode cX1_supply 24 = .ok (.iload_n 3, 1) := by decide +kernel
theorem dX1_supply_25 : decode cX1_supply 25 = .ok (.invokevirtual 39, 3) := by decide +kernel
theorem dX1_supply_28 : decode cX1_supply 28 = .ok (.iload_n 1, 1) := by decide +kernel
theorem dX1_supply_29 : decode cX1_supply 29 = .ok (.if_icmp .gt 14, 3) := by decide +kernel
theorem dX1_supply_32 : decode cX1_supply 32 = .ok (.iload_n 2, 1) := by decide +kernel
theorem dX1_supply_33 : decode cX1_supply 33 = .ok (.aload_n 0, 1) := by decide +kernel
theorem dX1_supply_34 : decode cX1_supply 34 = .ok (.getfield 29, 3) := by decide +kernel
theorem dX1_supply_37 : decode cX1_supply 37 = .ok (.iload_n 3, 1) := by decide +kernel
theorem dX1_supply_38 : decode cX1_supply 38 = .ok (.invokevirtual 39, 3) := by decide +kernel
theorem dX1_supply_41 : decode cX1_supply 41 = .ok (.iadd, 1) := by decide +kernel
theorem dX1_supply_42 : decode cX1_supply 42 = .ok (.istore_n 2, 1) := by decide +kernel
theorem dX1_supply_43 : decode cX1_supply 43 = .ok (.iinc 3 1, 3) := by decide +kernel
theorem dX1_supply_46 : decode cX1_supply 46 = .ok (.goto (-42), 3) := by decide +kernel
theorem dX1_supply_49 : decode cX1_supply 49 = .ok (.iload_n 2, 1) := by decide +kernel
theorem dX1_supply_50 : decode cX1_supply 50 = .ok (.ireturn, 1) := by decide +kernel
theorem dX1_volume_0 : decode cX1_volume 0 = .ok (.aload_n 0, 1) := by decide +kernel
theorem dX1_volume_1 : decode cX1_volume 1 = .ok (.iload_n 1, 1) := by decide +kernel
theorem dX1_volume_2 : decode cX1_volume 2 = .ok (.invokevirtual 68, 3) := by decide +kernel
theorem dX1_volume_5 : decode cX1_volume 5 = .ok (.aload_n 0, 1) := by decide +kernel
theorem dX1_volume_6 : decode cX1_volume 6 = .ok (.iload_n 1, 1) := by decide +kernel
theorem dX1_volume_7 : decode cX1_volume 7 = .ok (.invokevirtual 71, 3) := by decide +kernel
theorem dX1_volume_10 : decode cX1_volume 10 = .ok (.invokestatic 74, 3) := by decide +kernel
theorem dX1_volume_13 : decode cX1_volume 13 = .ok (.ireturn, 1) := by decide +kernel
theorem dX1_poolByTrying_0 : decode cX1_poolByTrying 0 = .ok (.new 80, 3) := by decide +kernel
theorem dX1_poolByTrying_3 : decode cX1_poolByTrying 3 = .ok (.dup, 1) := by decide +kernel
theorem dX1_poolByTrying_4 : decode cX1_poolByTrying 4 = .ok (.invokespecial 82, 3) := by decide +kernel
theorem dX1_poolByTrying_7 : decode cX1_poolByTrying 7 = .ok (.astore_n 1, 1) := by decide +kernel
theorem dX1_poolByTrying_8 : decode cX1_poolByTrying 8 = .ok (.iconst 1, 1) := by decide +kernel
theorem dX1_poolByTrying_9 : decode cX1_poolByTrying 9 = .ok (.istore_n 2, 1) := by decide +kernel
theorem dX1_poolByTrying_10 : decode cX1_poolByTrying 10 = .ok (.iload_n 2, 1) := by decide +kernel
theorem dX1_poolByTrying_11 : decode cX1_poolByTrying 11 = .ok (.bipush 99, 2) := by decide +kernel
theorem dX1_poolByTrying_13 : decode cX1_poolByTrying 13 = .ok (.if_icmp .gt 24, 3) := by decide +kernel
theorem dX1_poolByTrying_16 : decode cX1_poolByTrying 16 = .ok (.aload_n 1, 1) := by decide +kernel
theorem dX1_poolByTrying_17 : decode cX1_poolByTrying 17 = .ok (.iload_n 2, 1) := by decide +kernel
theorem dX1_poolByTrying_18 : decode cX1_poolByTrying 18 = .ok (.aload_n 0, 1) := by decide +kernel
theorem dX1_poolByTrying_19 : decode cX1_poolByTrying 19 = .ok (.iload_n 2, 1) := by decide +kernel
theorem dX1_poolByTrying_20 : decode cX1_poolByTrying 20 = .ok (.invokevirtual 68, 3) := by decide +kernel
theorem dX1_poolByTrying_23 : decode cX1_poolByTrying 23 = .ok (.aload_n 0, 1) := by decide +kernel
theorem dX1_poolByTrying_24 : decode cX1_poolByTrying 24 = .ok (.iload_n 2, 1) := by decide +kernel
theorem dX1_poolByTrying_25 : decode cX1_poolByTrying 25 = .ok (.invokevirtual 71, 3) := by decide +kernel
theorem dX1_poolByTrying_28 : decode cX1_poolByTrying 28 = .ok (.invokevirtual 83, 3) := by decide +kernel
theorem dX1_poolByTrying_31 : decode cX1_poolByTrying 31 = .ok (.iinc 2 1, 3) := by decide +kernel
theorem dX1_poolByTrying_34 : decode cX1_poolByTrying 34 = .ok (.goto (-24), 3) := by decide +kernel
theorem dX1_poolByTrying_37 : decode cX1_poolByTrying 37 = .ok (.aload_n 1, 1) := by decide +kernel
theorem dX1_poolByTrying_38 : decode cX1_poolByTrying 38 = .ok (.areturn, 1) := by decide +kernel
theorem dX1_copyFrom_0 : decode cX1_copyFrom 0 = .ok (.aload_n 0, 1) := by decide +kernel
theorem dX1_copyFrom_1 : decode cX1_copyFrom 1 = .ok (.getfield 14, 3) := by decide +kernel
theorem dX1_copyFrom_4 : decode cX1_copyFrom 4 = .ok (.aload_n 1, 1) := by decide +kernel
theorem dX1_copyFrom_5 : decode cX1_copyFrom 5 = .ok (.getfield 14, 3) := by decide +kernel
theorem dX1_copyFrom_8 : decode cX1_copyFrom 8 = .ok (.invokevirtual 87, 3) := by decide +kernel
theorem dX1_copyFrom_11 : decode cX1_copyFrom 11 = .ok (.aload_n 0, 1) := by decide +kernel
theorem dX1_copyFrom_12 : decode cX1_copyFrom 12 = .ok (.getfield 20, 3) := by decide +kernel
theorem dX1_copyFrom_15 : decode cX1_copyFrom 15 = .ok (.aload_n 1, 1) := by decide +kernel
theorem dX1_copyFrom_16 : decode cX1_copyFrom 16 = .ok (.getfield 20, 3) := by decide +kernel
theorem dX1_copyFrom_19 : decode cX1_copyFrom 19 = .ok (.invokevirtual 87, 3) := by decide +kernel
theorem dX1_copyFrom_22 : decode cX1_copyFrom 22 = .ok (.aload_n 0, 1) := by decide +kernel
theorem dX1_copyFrom_23 : decode cX1_copyFrom 23 = .ok (.getfield 23, 3) := by decide +kernel
theorem dX1_copyFrom_26 : decode cX1_copyFrom 26 = .ok (.aload_n 1, 1) := by decide +kernel
theorem dX1_copyFrom_27 : decode cX1_copyFrom 27 = .ok (.getfield 23, 3) := by decide +kernel
theorem dX1_copyFrom_30 : decode cX1_copyFrom 30 = .ok (.invokevirtual 87, 3) := by decide +kernel
theorem dX1_copyFrom_33 : decode cX1_copyFrom 33 = .ok (.aload_n 0, 1) := by decide +kernel
theorem dX1_copyFrom_34 : decode cX1_copyFrom 34 = .ok (.getfield 26, 3) := by decide +kernel
theorem dX1_copyFrom_37 : decode cX1_copyFrom 37 = .ok (.aload_n 1, 1) := by decide +kernel
theorem dX1_copyFrom_38 : decode cX1_copyFrom 38 = .ok (.getfield 26, 3) := by decide +kernel
theorem dX1_copyFrom_41 : decode cX1_copyFrom 41 = .ok (.invokevirtual 87, 3) := by decide +kernel
theorem dX1_copyFrom_44 : decode cX1_copyFrom 44 = .ok (.aload_n 0, 1) := by decide +kernel
theorem dX1_copyFrom_45 : decode cX1_copyFrom 45 = .ok (.getfield 29, 3) := by decide +kernel
theorem dX1_copyFrom_48 : decode cX1_copyFrom 48 = .ok (.aload_n 1, 1) := by decide +kernel
theorem dX1_copyFrom_49 : decode cX1_copyFrom 49 = .ok (.getfield 29, 3) := by decide +kernel
theorem dX1_copyFrom_52 : decode cX1_copyFrom 52 = .ok (.invokevirtual 87, 3) := by decide +kernel
theorem dX1_copyFrom_55 : decode cX1_copyFrom 55 = .ok (.aload_n 0, 1) := by decide +kernel
theorem dX1_copyFrom_56 : decode cX1_copyFrom 56 = .ok (.getfield 32, 3) := by decide +kernel
theorem dX1_copyFrom_59 : decode cX1_copyFrom 59 = .ok (.aload_n 1, 1) := by decide +kernel
theorem dX1_copyFrom_60 : decode cX1_copyFrom 60 = .ok (.getfield 32, 3) := by decide +kernel
theorem dX1_copyFrom_63 : decode cX1_copyFrom 63 = .ok (.invokevirtual 87, 3) := by decide +kernel
theorem dX1_copyFrom_66 : decode cX1_copyFrom 66 = .ok (.aload_n 0, 1) := by decide +kernel
theorem dX1_copyFrom_67 : decode cX1_copyFrom 67 = .ok (.aload_n 1, 1) := by decide +kernel
theorem dX1_copyFrom_68 : decode cX1_copyFrom 68 = .ok (.getfield 35, 3) := by decide +kernel
theorem dX1_copyFrom_71 : decode cX1_copyFrom 71 = .ok (.putfield 35, 3) := by decide +kernel
theorem dX1_copyFrom_74 : decode cX1_copyFrom 74 = .ok (.return_, 1) := by decide +kernel
theorem dX2_init_0 : decode cX2_init 0 = .ok (.aload_n 0, 1) := by decide +kernel
theorem dX2_init_1 : decode cX2_init 1 = .ok (.invokespecial 3, 3) := by decide +kernel
theorem dX2_init_4 : decode cX2_init 4 = .ok (.aload_n 0, 1) := by decide +kernel
theorem dX2_init_5 : decode cX2_init 5 = .ok (.new 9, 3) := by decide +kernel
theorem dX2_init_8 : decode cX2_init 8 = .ok (.dup, 1) := by decide +kernel
theorem dX2_init_9 : decode cX2_init 9 = .ok (.invokespecial 11, 3) := by decide +kernel
theorem dX2_init_12 : decode cX2_init 12 = .ok (.putfield 12, 3) := by decide +kernel
theorem dX2_init_15 : decode cX2_init 15 = .ok (.aload_n 0, 1) := by decide +kernel
theorem dX2_init_16 : decode cX2_init 16 = .ok (.new 18, 3) := by decide +kernel
theorem dX2_init_19 : decode cX2_init 19 = .ok (.dup, 1) := by decide +kernel
theorem dX2_init_20 : decode cX2_init 20 = .ok (.iconst 3, 1) := by decide +kernel
theorem dX2_init_21 : decode cX2_init 21 = .ok (.invokespecial 20, 3) := by decide +kernel
theorem dX2_init_24 : decode cX2_init 24 = .ok (.putfield 23, 3) := by decide +kernel
theorem dX2_init_27 : decode cX2_init 27 = .ok (.aload_n 0, 1) := by decide +kernel
theorem dX2_init_28 : decode cX2_init 28 = .ok (.getstatic 27, 3) := by decide +kernel
theorem dX2_init_31 : decode cX2_init 31 = .ok (.putfield 33, 3) := by decide +kernel
theorem dX2_init_34 : decode cX2_init 34 = .ok (.aload_n 0, 1) := by decide +kernel
theorem dX2_init_35 : decode cX2_init 35 = .ok (.iconst 0, 1) := by decide +kernel
theorem dX2_init_36 : decode cX2_init 36 = .ok (.putfield 36, 3) := by decide +kernel
theorem dX2_init_39 : decode cX2_init 39 = .ok (.return_, 1) := by decide +kernel
theorem dX2_isFull_0 : decode cX2_isFull 0 = .ok (.aload_n 0, 1) := by decide +kernel
theorem dX2_isFull_1 : decode cX2_isFull 1 = .ok (.getfield 12, 3) := by decide +kernel
theorem dX2_isFull_4 : decode cX2_isFull 4 = .ok (.invokevirtual 40, 3) := by decide +kernel
theorem dX2_isFull_7 : decode cX2_isFull 7 = .ok (.bipush 60, 2) := by decide +kernel
theorem dX2_isFull_9 : decode cX2_isFull 9 = .ok (.if_icmp .lt 7, 3) := by decide +kernel
theorem dX2_isFull_12 : decode cX2_isFull 12 = .ok (.iconst 1, 1) := by decide +kernel
theorem dX2_isFull_13 : decode cX2_isFull 13 = .ok (.goto 4, 3) := by decide +kernel
theorem dX2_isFull_16 : decode cX2_isFull 16 = .ok (.iconst 0, 1) := by decide +kernel
theorem dX2_isFull_17 : decode cX2_isFull 17 = .ok (.ireturn, 1) := by decide +kernel
theorem dX2_append_0 : decode cX2_append 0 = .ok (.aload_n 0, 1) := by decide +kernel
theorem dX2_append_1 : decode cX2_append 1 = .ok (.getfield 12, 3) := by decide +kernel
theorem dX2_append_4 : decode cX2_append 4 = .ok (.iload_n 1, 1) := by decide +kernel
theorem dX2_append_5 : decode cX2_append 5 = .ok (.invokevirtual 44, 3) := by decide +kernel
theorem dX2_append_8 : decode cX2_append 8 = .ok (.pop, 1) := by decide +kernel
theorem dX2_append_9 : decode cX2_append 9 = .ok (.aload_n 0, 1) := by decide +kernel
theorem dX2_append_10 : decode cX2_append 10 = .ok (.getfield 12, 3) := by decide +kernel
theorem dX2_append_13 : decode cX2_append 13 = .ok (.invokevirtual 40, 3) := by decide +kernel
theorem dX2_append_16 : decode cX2_append 16 = .ok (.ireturn, 1) := by decide +kernel
theorem dX2_empty_0 : decode cX2_empty 0 = .ok (.aload_n 0, 1) := by decide +kernel
theorem dX2_empty_1 : decode cX2_empty 1 = .ok (.getfield 12, 3) := by decide +kernel
theorem dX2_empty_4 : decode cX2_empty 4 = .ok (.iconst 0, 1) := by decide +kernel
theorem dX2_empty_5 : decode cX2_empty 5 = .ok (.invokevirtual 48, 3) := by decide +kernel
theorem dX2_empty_8 : decode cX2_empty 8 = .ok (.aload_n 0, 1) := by decide +kernel
theorem dX2_empty_9 : decode cX2_empty 9 = .ok (.iconst 0, 1) := by decide +kernel
theorem dX2_empty_10 : decode cX2_empty 10 = .ok (.putfield 36, 3) := by decide +kernel
theorem dX2_empty_13 : decode cX2_empty 13 = .ok (.return_, 1) := by decide +kernel
theorem dX2_rewind_0 : decode cX2_rewind 0 = .ok (.aload_n 0, 1) := by decide +kernel
theorem dX2_rewind_1 : decode cX2_rewind 1 = .ok (.iconst 0, 1) := by decide +kernel
theorem dX2_rewind_2 : decode cX2_rewind 2 = .ok (.putfield 36, 3) := by decide +kernel
theorem dX2_rewind_5 : decode cX2_rewind 5 = .ok (.return_, 1) := by decide +kernel
theorem dX2_countCommands_0 : decode cX2_countCommands 0 = .ok (.aload_n 0, 1) := by decide +kernel
theorem dX2_countCommands_1 : decode cX2_countCommands 1 = .ok (.invokevirtual 51, 3) := by decide +kernel
theorem dX2_countCommands_4 : decode cX2_countCommands 4 = .ok (.iconst 1, 1) := by decide +kernel
theorem dX2_countCommands_5 : decode cX2_countCommands 5 = .ok (.istore_n 1, 1) := by decide +kernel
theorem dX2_countCommands_6 : decode cX2_countCommands 6 = .ok (.iload_n 1, 1) := by decide +kernel
theorem dX2_countCommands_7 : decode cX2_countCommands 7 = .ok (.bipush 60, 2) := by decide +kernel
theorem dX2_countCommands_9 : decode cX2_countCommands 9 = .ok (.if_icmp .gt 34, 3) := by decide +kernel
theorem dX2_countCommands_12 : decode cX2_countCommands 12 = .ok (.aload_n 0, 1) := by decide +kernel
theorem dX2_countCommands_13 : decode cX2_countCommands 13 = .ok (.invokevirtual 54, 3) := by decide +kernel
theorem dX2_countCommands_16 : decode cX2_countCommands 16 = .ok (.ifCond .ne 5, 3) := by decide +kernel
theorem dX2_countCommands_19 : decode cX2_countCommands 19 = .ok (.iconst (-1), 1) := by decide +kernel
theorem dX2_countCommands_20 : decode cX2_countCommands 20 = .ok (.ireturn, 1) := by decide +kernel
theorem dX2_countCommands_21 : decode cX2_countCommands 21 = .ok (.aload_n 0, 1) := by decide +kernel
theorem dX2_countCommands_22 : decode cX2_countCommands 22 = .ok (.getfield 36, 3) := by decide +kernel
theorem dX2_countCommands_25 : decode cX2_countCommands 25 = .ok (.aload_n 0, 1) := by decide +kernel
theorem dX2_countCommands_26 : decode cX2_countCommands 26 = .ok (.getfield 12, 3) := by decide +kernel
theorem dX2_countCommands_29 : decode cX2_countCommands 29 = .ok (.invokevirtual 40, 3) := by decide +kernel
theorem dX2_countCommands_32 : decode cX2_countCommands 32 = .ok (.if_icmp .ne 5, 3) := by decide +kernel
theorem dX2_countCommands_35 : decode cX2_countCommands 35 = .ok (.iload_n 1, 1) := by decide +kernel
theorem dX2_countCommands_36 : decode cX2_countCommands 36 = .ok (.ireturn, 1) := by decide +kernel
theorem dX2_countCommands_37 : decode cX2_countCommands 37 = .ok (.iinc 1 1, 3) := by decide +kernel
theorem dX2_countCommands_40 : decode cX2_countCommands 40 = .ok (.goto (-34), 3) := by decide +kernel
theorem dX2_countCommands_43 : decode cX2_countCommands 43 = .ok (.iconst (-1), 1) := by decide +kernel
theorem dX2_countCommands_44 : decode cX2_countCommands 44 = .ok (.ireturn, 1) := by decide +kernel
theorem dX2_readCommand_0 : decode cX2_readCommand 0 = .ok (.aload_n 0, 1) := by decide +kernel
theorem dX2_readCommand_1 : decode cX2_readCommand 1 = .ok (.getfield 36, 3) := by decide +kernel
theorem dX2_readCommand_4 : decode cX2_readCommand 4 = .ok (.ifCond .le 14, 3) := by decide +kernel
theorem dX2_readCommand_7 : decode cX2_readCommand 7 = .ok (.aload_n 0, 1) := by decide +kernel
theorem dX2_readCommand_8 : decode cX2_readCommand 8 = .ok (.bipush 59, 2) := by decide +kernel
theorem dX2_readCommand_10 : decode cX2_readCommand 10 = .ok (.invokevirtual 58, 3) := by decide +kernel
theorem dX2_readCommand_13 : decode cX2_readCommand 13 = .ok (.ifCond .ne 5, 3) := by decide +kernel
theorem dX2_readCommand_16 : decode cX2_readCommand 16 = .ok (.iconst 0, 1) := by decide +kernel
theorem dX2_readCommand_17 : decode cX2_readCommand 17 = .ok (.ireturn, 1) := by decide +kernel
theorem dX2_readCommand_18 : decode cX2_readCommand 18 = .ok (.aload_n 0, 1) := by decide +kernel
theorem dX2_readCommand_19 : decode cX2_readCommand 19 = .ok (.invokevirtual 62, 3) := by decide +kernel
theorem dX2_readCommand_22 : decode cX2_readCommand 22 = .ok (.ifCond .eq 14, 3) := by decide +kernel
theorem dX2_readCommand_25 : decode cX2_readCommand 25 = .ok (.aload_n 0, 1) := by decide +kernel
theorem dX2_readCommand_26 : decode cX2_readCommand 26 = .ok (.invokevirtual 65, 3) := by decide +kernel
theorem dX2_readCommand_29 : decode cX2_readCommand 29 = .ok (.ifCond .eq 7, 3) := by decide +kernel
theorem dX2_readCommand_32 : decode cX2_readCommand 32 = .ok (.iconst 1, 1) := by decide +kernel
theorem dX2_readCommand_33 : decode cX2_readCommand 33 = .ok (.goto 4, 3) := by decide +kernel
theorem dX2_readCommand_36 : decode cX2_readCommand 36 = .ok (.iconst 0, 1) := by decide +kernel
theorem dX2_readCommand_37 : decode cX2_readCommand 37 = .ok (.ireturn, 1) := by decide +kernel
theorem dX2_readVerb_0 : decode cX2_readVerb 0 = .ok (.iconst 0, 1) := by decide +kernel
theorem dX2_readVerb_1 : decode cX2_readVerb 1 = .ok (.istore_n 1, 1) := by decide +kernel
theorem dX2_readVerb_2 : decode cX2_readVerb 2 = .ok (.getstatic 68, 3) := by decide +kernel
theorem dX2_readVerb_5 : decode cX2_readVerb 5 = .ok (.astore_n 2, 1) := by decide +kernel
theorem dX2_readVerb_6 : decode cX2_readVerb 6 = .ok (.aload_n 2, 1) := by decide +kernel
theorem dX2_readVerb_7 : decode cX2_readVerb 7 = .ok (.arraylength, 1) := by decide +kernel
theorem dX2_readVerb_8 : decode cX2_readVerb 8 = .ok (.istore_n 3, 1) := by decide +kernel
theorem dX2_readVerb_9 : decode cX2_readVerb 9 = .ok (.iconst 0, 1) := by decide +kernel
theorem dX2_readVerb_10 : decode cX2_readVerb 10 = .ok (.istore 4, 2) := by decide +kernel
theorem dX2_readVerb_12 : decode cX2_readVerb 12 = .ok (.iload 4, 2) := by decide +kernel
theorem dX2_readVerb_14 : decode cX2_readVerb 14 = .ok (.iload_n 3, 1) := by decide +kernel
theorem dX2_readVerb_15 : decode cX2_readVerb 15 = .ok (.if_icmp .ge 65, 3) := by decide +kernel
theorem dX2_readVerb_18 : decode cX2_readVerb 18 = .ok (.aload_n 2, 1) := by decide +kernel
theorem dX2_readVerb_19 : decode cX2_readVerb 19 = .ok (.iload 4, 2) := by decide +kernel
theorem dX2_readVerb_21 : decode cX2_readVerb 21 = .ok (.aaload, 1) := by decide +kernel
theorem dX2_readVerb_22 : decode cX2_readVerb 22 = .ok (.astore 5, 2) := by decide +kernel
theorem dX2_readVerb_24 : decode cX2_readVerb 24 = .ok (.aload_n 0, 1) := by decide +kernel
theorem dX2_readVerb_25 : decode cX2_readVerb 25 = .ok (.aload 5, 2) := by decide +kernel
theorem dX2_readVerb_27 : decode cX2_readVerb 27 = .ok (.getfield 72, 3) := by decide +kernel
theorem dX2_readVerb_30 : decode cX2_readVerb 30 = .ok (.invokevirtual 76, 3) := by decide +kernel
theorem dX2_readVerb_33 : decode cX2_readVerb 33 = .ok (.istore 6, 2) := by decide +kernel
theorem dX2_readVerb_35 : decode cX2_readVerb 35 = .ok (.iload 6, 2) := by decide +kernel
theorem dX2_readVerb_37 : decode cX2_readVerb 37 = .ok (.aload 5, 2) := by decide +kernel
theorem dX2_readVerb_39 : decode cX2_readVerb 39 = .ok (.getfield 72, 3) := by decide +kernel
theorem dX2_readVerb_42 : decode cX2_readVerb 42 = .ok (.invokevirtual 80, 3) := by decide +kernel
theorem dX2_readVerb_45 : decode cX2_readVerb 45 = .ok (.if_icmp .ne 22, 3) := by decide +kernel
theorem dX2_readVerb_48 : decode cX2_readVerb 48 = .ok (.aload_n 0, 1) := by decide +kernel
theorem dX2_readVerb_49 : decode cX2_readVerb 49 = .ok (.aload 5, 2) := by decide +kernel
theorem dX2_readVerb_51 : decode cX2_readVerb 51 = .ok (.putfield 33, 3) := by decide +kernel
theorem dX2_readVerb_54 : decode cX2_readVerb 54 = .ok (.aload_n 0, 1) := by decide +kernel
theorem dX2_readVerb_55 : decode cX2_readVerb 55 = .ok (.dup, 1) := by decide +kernel
theorem dX2_readVerb_56 : decode cX2_readVerb 56 = .ok (.getfield 36, 3) := by decide +kernel
theorem dX2_readVerb_59 : decode cX2_readVerb 59 = .ok (.iload 6, 2) := by decide +kernel
theorem dX2_readVerb_61 : decode cX2_readVerb 61 = .ok (.iadd, 1) := by decide +kernel
theorem dX2_readVerb_62 : decode cX2_readVerb 62 = .ok (.putfield 36, 3) := by decide +kernel
theorem dX2_readVerb_65 : decode cX2_readVerb 65 = .ok (.iconst 1, 1) := by decide +kernel
theorem dX2_readVerb_66 : decode cX2_readVerb 66 = .ok (.ireturn, 1) := by decide +kernel
theorem dX2_readVerb_67 : decode cX2_readVerb 67 = .ok (.iload_n 1, 1) := by decide +kernel
theorem dX2_readVerb_68 : decode cX2_readVerb 68 = .ok (.iload 6, 2) := by decide +kernel
theorem dX2_readVerb_70 : decode cX2_readVerb 70 = .ok (.invokestatic 83, 3) := by decide +kernel
theorem dX2_readVerb_73 : decode cX2_readVerb 73 = .ok (.istore_n 1, 1) := by decide +kernel
theorem dX2_readVerb_74 : decode cX2_readVerb 74 = .ok (.iinc 4 1, 3) := by decide +kernel
theorem dX2_readVerb_77 : decode cX2_readVerb 77 = .ok (.goto (-65), 3) := by decide +kernel
theorem dX2_readVerb_80 : decode cX2_readVerb 80 = .ok (.aload_n 0, 1) := by decide +kernel
theorem dX2_readVerb_81 : decode cX2_readVerb 81 = .ok (.dup, 1) := by decide +kernel
theorem dX2_readVerb_82 : decode cX2_readVerb 82 = .ok (.getfield 36, 3) := by decide +kernel
theorem dX2_readVerb_85 : decode cX2_readVerb 85 = .ok (.iload_n 1, 1) := by decide +kernel
theorem dX2_readVerb_86 : decode cX2_readVerb 86 = .ok (.iadd, 1) := by decide +kernel
theorem dX2_readVerb_87 : decode cX2_readVerb 87 = .ok (.putfield 36, 3) := by decide +kernel
theorem dX2_readVerb_90 : decode cX2_readVerb 90 = .ok (.iconst 0, 1) := by decide +kernel
theorem dX2_readVerb_91 : decode cX2_readVerb 91 = .ok (.ireturn, 1) := by decide +kernel
theorem dX2_matchingLetters_0 : decode cX2_matchingLetters 0 = .ok (.iconst 0, 1) := by decide +kernel
theorem dX2_matchingLetters_1 : decode cX2_matchingLetters 1 = .ok (.istore_n 2, 1) := by decide +kernel
theorem dX2_matchingLetters_2 : decode cX2_matchingLetters 2 = .ok (.iload_n 2, 1) := by decide +kernel
theorem dX2_matchingLetters_3 : decode cX2_matchingLetters 3 = .ok (.aload_n 1, 1) := by decide +kernel
theorem dX2_matchingLetters_4 : decode cX2_matchingLetters 4 = .ok (.invokevirtual 80, 3) := by decide +kernel
theorem dX2_matchingLetters_7 : decode cX2_matchingLetters 7 = .ok (.if_icmp .ge 27, 3) := by decide +kernel
theorem dX2_matchingLetters_10 : decode cX2_matchingLetters 10 = .ok (.aload_n 0, 1) := by decide +kernel
theorem dX2_matchingLetters_11 : decode cX2_matchingLetters 11 = .ok (.aload_n 0, 1) := by decide +kernel
theorem dX2_matchingLetters_12 : decode cX2_matchingLetters 12 = .ok (.getfield 36, 3) := by decide +kernel
theorem dX2_matchingLetters_15 : decode cX2_matchingLetters 15 = .ok (.iload_n 2, 1) := by decide +kernel
theorem dX2_matchingLetters_16 : decode cX2_matchingLetters 16 = .ok (.iadd, 1) := by decide +kernel
theorem dX2_matchingLetters_17 : decode cX2_matchingLetters 17 = .ok (.aload_n 1, 1) := by decide +kernel
theorem dX2_matchingLetters_18 : decode cX2_matchingLetters 18 = .ok (.iload_n 2, 1) := by decide +kernel
theorem dX2_matchingLetters_19 : decode cX2_matchingLetters 19 = .ok (.invokevirtual 89, 3) := by decide +kernel
theorem dX2_matchingLetters_22 : decode cX2_matchingLetters 22 = .ok (.invokevirtual 93, 3) := by decide +kernel
theorem dX2_matchingLetters_25 : decode cX2_matchingLetters 25 = .ok (.ifCond .eq 9, 3) := by decide +kernel
theorem dX2_matchingLetters_28 : decode cX2_matchingLetters 28 = .ok (.iinc 2 1, 3) := by decide +kernel
theorem dX2_matchingLetters_31 : decode cX2_matchingLetters 31 = .ok (.goto (-29), 3) := by decide +kernel
theorem dX2_matchingLetters_34 : decode cX2_matchingLetters 34 = .ok (.iload_n 2, 1) := by decide +kernel
theorem dX2_matchingLetters_35 : decode cX2_matchingLetters 35 = .ok (.ireturn, 1) := by decide +kernel
theorem dX2_readParameters_0 : decode cX2_readParameters 0 = .ok (.iconst 0, 1) := by decide +kernel
theorem dX2_readParameters_1 : decode cX2_readParameters 1 = .ok (.istore_n 1, 1) := by decide +kernel
theorem dX2_readParameters_2 : decode cX2_readParameters 2 = .ok (.iload_n 1, 1) := by decide +kernel
theorem dX2_readParameters_3 : decode cX2_readParameters 3 = .ok (.aload_n 0, 1) := by decide +kernel
theorem dX2_readParameters_4 : decode cX2_readParameters 4 = .ok (.getfield 33, 3) := by decide +kernel
theorem dX2_readParameters_7 : decode cX2_readParameters 7 = .ok (.getfield 97, 3) := by decide +kernel
theorem dX2_readParameters_10 : decode cX2_readParameters 10 = .ok (.aload_n 0, 1) := by decide +kernel
theorem dX2_readParameters_11 : decode cX2_readParameters 11 = .ok (.getfield 33, 3) := by decide +kernel
theorem dX2_readParameters_14 : decode cX2_readParameters 14 = .ok (.getfield 100, 3) := by decide +kernel
theorem dX2_readParameters_17 : decode cX2_readParameters 17 = .ok (.iadd, 1) := by decide +kernel
theorem dX2_readParameters_18 : decode cX2_readParameters 18 = .ok (.if_icmp .ge 44, 3) := by decide +kernel
theorem dX2_readParameters_21 : decode cX2_readParameters 21 = .ok (.aload_n 0, 1) := by decide +kernel
theorem dX2_readParameters_22 : decode cX2_readParameters 22 = .ok (.bipush 32, 2) := by decide +kernel
theorem dX2_readParameters_24 : decode cX2_readParameters 24 = .ok (.invokevirtual 58, 3) := by decide +kernel
theorem dX2_readParameters_27 : decode cX2_readParameters 27 = .ok (.ifCond .eq 27, 3) := by decide +kernel
theorem dX2_readParameters_30 : decode cX2_readParameters 30 = .ok (.aload_n 0, 1) := by decide +kernel
theorem dX2_readParameters_31 : decode cX2_readParameters 31 = .ok (.iload_n 1, 1) := by decide +kernel
theorem dX2_readParameters_32 : decode cX2_readParameters 32 = .ok (.iload_n 1, 1) := by decide +kernel
theorem dX2_readParameters_33 : decode cX2_readParameters 33 = .ok (.aload_n 0, 1) := by decide +kernel
theorem dX2_readParameters_34 : decode cX2_readParameters 34 = .ok (.getfield 33, 3) := by decide +kernel
theorem dX2_readParameters_37 : decode cX2_readParameters 37 = .ok (.getfield 97, 3) := by decide +kernel
theorem dX2_readParameters_40 : decode cX2_readParameters 40 = .ok (.if_icmp .ge 7, 3) := by decide +kernel
theorem dX2_readParameters_43 : decode cX2_readParameters 43 = .ok (.iconst 1, 1) := by decide +kernel
theorem dX2_readParameters_44 : decode cX2_readParameters 44 = .ok (.goto 4, 3) := by decide +kernel
theorem dX2_readParameters_47 : decode cX2_readParameters 47 = .ok (.iconst 3, 1) := by decide +kernel
theorem dX2_readParameters_48 : decode cX2_readParameters 48 = .ok (.invokevirtual 103, 3) := by decide +kernel
theorem dX2_readParameters_51 : decode cX2_readParameters 51 = .ok (.ifCond .ne 5, 3) := by decide +kernel
theorem dX2_readParameters_54 : decode cX2_readParameters 54 = .ok (.iconst 0, 1) := by decide +kernel
theorem dX2_readParameters_55 : decode cX2_readParameters 55 = .ok (.ireturn, 1) := by decide +kernel
theorem dX2_readParameters_56 : decode cX2_readParameters 56 = .ok (.iinc 1 1, 3) := by decide +kernel
theorem dX2_readParameters_59 : decode cX2_readParameters 59 = .ok (.goto (-57), 3) := by decide +kernel
theorem dX2_readParameters_62 : decode cX2_readParameters 62 = .ok (.iconst 1, 1) := by decide +kernel
theorem dX2_readParameters_63 : decode cX2_readParameters 63 = .ok (.ireturn, 1) := by decide +kernel
theorem dX2_readNumber_0 : decode cX2_readNumber 0 = .ok (.iconst 0, 1) := by decide +kernel
theorem dX2_readNumber_1 : decode cX2_readNumber 1 = .ok (.istore_n 3, 1) := by decide +kernel
theorem dX2_readNumber_2 : decode cX2_readNumber 2 = .ok (.iconst 0, 1) := by decide +kernel
theorem dX2_readNumber_3 : decode cX2_readNumber 3 = .ok (.istore 4, 2) := by decide +kernel
theorem dX2_readNumber_5 : decode cX2_readNumber 5 = .ok (.iload 4, 2) := by decide +kernel
theorem dX2_readNumber_7 : decode cX2_readNumber 7 = .ok (.iload_n 2, 1) := by decide +kernel
theorem dX2_readNumber_8 : decode cX2_readNumber 8 = .ok (.if_icmp .ge 45, 3) := by decide +kernel
theorem dX2_readNumber_11 : decode cX2_readNumber 11 = .ok (.aload_n 0, 1) := by decide +kernel
theorem dX2_readNumber_12 : decode cX2_readNumber 12 = .ok (.aload_n 0, 1) := by decide +kernel
theorem dX2_readNumber_13 : decode cX2_readNumber 13 = .ok (.getfield 36, 3) := by decide +kernel
theorem dX2_readNumber_16 : decode cX2_readNumber 16 = .ok (.invokevirtual 107, 3) := by decide +kernel
theorem dX2_readNumber_19 : decode cX2_readNumber 19 = .ok (.iconst (-1), 1) := by decide +kernel
theorem dX2_readNumber_20 : decode cX2_readNumber 20 = .ok (.if_icmp .eq 33, 3) := by decide +kernel
theorem dX2_readNumber_23 : decode cX2_readNumber 23 = .ok (.bipush 10, 2) := by decide +kernel
theorem dX2_readNumber_25 : decode cX2_readNumber 25 = .ok (.iload_n 3, 1) := by decide +kernel
theorem dX2_readNumber_26 : decode cX2_readNumber 26 = .ok (.imul, 1) := by decide +kernel
theorem dX2_readNumber_27 : decode cX2_readNumber 27 = .ok (.aload_n 0, 1) := by decide +kernel
theorem dX2_readNumber_28 : decode cX2_readNumber 28 = .ok (.aload_n 0, 1) := by decide +kernel
theorem dX2_readNumber_29 : decode cX2_readNumber 29 = .ok (.getfield 36, 3) := by decide +kernel
theorem dX2_readNumber_32 : decode cX2_readNumber 32 = .ok (.invokevirtual 107, 3) := by decide +kernel
theorem dX2_readNumber_35 : decode cX2_readNumber 35 = .ok (.iadd, 1) := by decide +kernel
theorem dX2_readNumber_36 : decode cX2_readNumber 36 = .ok (.istore_n 3, 1) := by decide +kernel
theorem dX2_readNumber_37 : decode cX2_readNumber 37 = .ok (.iinc 4 1, 3) := by decide +kernel
theorem dX2_readNumber_40 : decode cX2_readNumber 40 = .ok (.aload_n 0, 1) := by decide +kernel
theorem dX2_readNumber_41 : decode cX2_readNumber 41 = .ok (.dup, 1) := by decide +kernel
theorem dX2_readNumber_42 : decode cX2_readNumber 42 = .ok (.getfield 36, 3) := by decide +kernel
theorem dX2_readNumber_45 : decode cX2_readNumber 45 = .ok (.iconst 1, 1) := by decide +kernel
theorem dX2_readNumber_46 : decode cX2_readNumber 46 = .ok (.iadd, 1) := by decide +kernel
theorem dX2_readNumber_47 : decode cX2_readNumber 47 = .ok (.putfield 36, 3) := by decide +kernel
theorem dX2_readNumber_50 : decode cX2_readNumber 50 = .ok (.goto (-45), 3) := by decide +kernel
theorem dX2_readNumber_53 : decode cX2_readNumber 53 = .ok (.aload_n 0, 1) := by decide +kernel
theorem dX2_readNumber_54 : decode cX2_readNumber 54 = .ok (.getfield 23, 3) := by decide +kernel
theorem dX2_readNumber_57 : decode cX2_readNumber 57 = .ok (.iload_n 1, 1) := by decide +kernel
theorem dX2_readNumber_58 : decode cX2_readNumber 58 = .ok (.iload_n 3, 1) := by decide +kernel
theorem dX2_readNumber_59 : decode cX2_readNumber 59 = .ok (.invokevirtual 111, 3) := by decide +kernel
theorem dX2_readNumber_62 : decode cX2_readNumber 62 = .ok (.iload 4, 2) := by decide +kernel
theorem dX2_readNumber_64 : decode cX2_readNumber 64 = .ok (.ifCond .le 7, 3) := by decide +kernel
theorem dX2_readNumber_67 : decode cX2_readNumber 67 = .ok (.iconst 1, 1) := by decide +kernel
theorem dX2_readNumber_68 : decode cX2_readNumber 68 = .ok (.goto 4, 3) := by decide +kernel
theorem dX2_readNumber_71 : decode cX2_readNumber 71 = .ok (.iconst 0, 1) := by decide +kernel
theorem dX2_readNumber_72 : decode cX2_readNumber 72 = .ok (.ireturn, 1) := by decide +kernel
theorem dX2_readSign_0 : decode cX2_readSign 0 = .ok (.aload_n 0, 1) := by decide +kernel
theorem dX2_readSign_1 : decode cX2_readSign 1 = .ok (.aload_n 0, 1) := by decide +kernel
theorem dX2_readSign_2 : decode cX2_readSign 2 = .ok (.getfield 36, 3) := by decide +kernel
theorem dX2_readSign_5 : decode cX2_readSign 5 = .ok (.iload_n 1, 1) := by decide +kernel
theorem dX2_readSign_6 : decode cX2_readSign 6 = .ok (.invokevirtual 93, 3) := by decide +kernel
theorem dX2_readSign_9 : decode cX2_readSign 9 = .ok (.ifCond .ne 5, 3) := by decide +kernel
theorem dX2_readSign_12 : decode cX2_readSign 12 = .ok (.iconst 0, 1) := by decide +kernel
theorem dX2_readSign_13 : decode cX2_readSign 13 = .ok (.ireturn, 1) := by decide +kernel
theorem dX2_readSign_14 : decode cX2_readSign 14 = .ok (.aload_n 0, 1) := by decide +kernel
theorem dX2_readSign_15 : decode cX2_readSign 15 = .ok (.dup, 1) := by decide +kernel
theorem dX2_readSign_16 : decode cX2_readSign 16 = .ok (.getfield 36, 3) := by decide +kernel
theorem dX2_readSign_19 : decode cX2_readSign 19 = .ok (.iconst 1, 1) := by decide +kernel
theorem dX2_readSign_20 : decode cX2_readSign 20 = .ok (.iadd, 1) := by decide +kernel
theorem dX2_readSign_21 : decode cX2_readSign 21 = .ok (.putfield 36, 3) := by decide +kernel
theorem dX2_readSign_24 : decode cX2_readSign 24 = .ok (.iconst 1, 1) := by decide +kernel
theorem dX2_readSign_25 : decode cX2_readSign 25 = .ok (.ireturn, 1) := by decide +kernel
theorem dX2_standsAt_0 : decode cX2_standsAt 0 = .ok (.iload_n 1, 1) := by decide +kernel
theorem dX2_standsAt_1 : decode cX2_standsAt 1 = .ok (.ifCond .lt 30, 3) := by decide +kernel
theorem dX2_standsAt_4 : decode cX2_standsAt 4 = .ok (.iload_n 1, 1) := by decide +kernel
theorem dX2_standsAt_5 : decode cX2_standsAt 5 = .ok (.aload_n 0, 1) := by decide +kernel
theorem dX2_standsAt_6 : decode cX2_standsAt 6 = .ok (.getfield 12, 3) := by decide +kernel
theorem dX2_standsAt_9 : decode cX2_standsAt 9 = .ok (.invokevirtual 40, 3) := by decide +kernel
theorem dX2_standsAt_12 : decode cX2_standsAt 12 = .ok (.if_icmp .ge 19, 3) := by decide +kernel
theorem dX2_standsAt_15 : decode cX2_standsAt 15 = .ok (.aload_n 0, 1) := by decide +kernel
theorem dX2_standsAt_16 : decode cX2_standsAt 16 = .ok (.getfield 12, 3) := by decide +kernel
theorem dX2_standsAt_19 : decode cX2_standsAt 19 = .ok (.iload_n 1, 1) := by decide +kernel
theorem dX2_standsAt_20 : decode cX2_standsAt 20 = .ok (.invokevirtual 115, 3) := by decide +kernel
theorem dX2_standsAt_23 : decode cX2_standsAt 23 = .ok (.iload_n 2, 1) := by decide +kernel
theorem dX2_standsAt_24 : decode cX2_standsAt 24 = .ok (.if_icmp .ne 7, 3) := by decide +kernel
theorem dX2_standsAt_27 : decode cX2_standsAt 27 = .ok (.iconst 1, 1) := by decide +kernel
theorem dX2_standsAt_28 : decode cX2_standsAt 28 = .ok (.goto 4, 3) := by decide +kernel
theorem dX2_standsAt_31 : decode cX2_standsAt 31 = .ok (.iconst 0, 1) := by decide +kernel
theorem dX2_standsAt_32 : decode cX2_standsAt 32 = .ok (.ireturn, 1) := by decide +kernel
theorem dX2_digitAt_0 : decode cX2_digitAt 0 = .ok (.iload_n 1, 1) := by decide +kernel
theorem dX2_digitAt_1 : decode cX2_digitAt 1 = .ok (.ifCond .lt 14, 3) := by decide +kernel
theorem dX2_digitAt_4 : decode cX2_digitAt 4 = .ok (.iload_n 1, 1) := by decide +kernel
theorem dX2_digitAt_5 : decode cX2_digitAt 5 = .ok (.aload_n 0, 1) := by decide +kernel
theorem dX2_digitAt_6 : decode cX2_digitAt 6 = .ok (.getfield 12, 3) := by decide +kernel
theorem dX2_digitAt_9 : decode cX2_digitAt 9 = .ok (.invokevirtual 40, 3) := by decide +kernel
theorem dX2_digitAt_12 : decode cX2_digitAt 12 = .ok (.if_icmp .lt 5, 3) := by decide +kernel
theorem dX2_digitAt_15 : decode cX2_digitAt 15 = .ok (.iconst (-1), 1) := by decide +kernel
theorem dX2_digitAt_16 : decode cX2_digitAt 16 = .ok (.ireturn, 1) := by decide +kernel
theorem dX2_digitAt_17 : decode cX2_digitAt 17 = .ok (.aload_n 0, 1) := by decide +kernel
theorem dX2_digitAt_18 : decode cX2_digitAt 18 = .ok (.getfield 12, 3) := by decide +kernel
theorem dX2_digitAt_21 : decode cX2_digitAt 21 = .ok (.iload_n 1, 1) := by decide +kernel
theorem dX2_digitAt_22 : decode cX2_digitAt 22 = .ok (.invokevirtual 115, 3) := by decide +kernel
theorem dX2_digitAt_25 : decode cX2_digitAt 25 = .ok (.istore_n 2, 1) := by decide +kernel
theorem dX2_digitAt_26 : decode cX2_digitAt 26 = .ok (.iload_n 2, 1) := by decide +kernel
theorem dX2_digitAt_27 : decode cX2_digitAt 27 = .ok (.bipush 48, 2) := by decide +kernel
theorem dX2_digitAt_29 : decode cX2_digitAt 29 = .ok (.if_icmp .lt 16, 3) := by decide +kernel
theorem dX2_digitAt_32 : decode cX2_digitAt 32 = .ok (.iload_n 2, 1) := by decide +kernel
theorem dX2_digitAt_33 : decode cX2_digitAt 33 = .ok (.bipush 57, 2) := by decide +kernel
theorem dX2_digitAt_35 : decode cX2_digitAt 35 = .ok (.if_icmp .gt 10, 3) := by decide +kernel
theorem dX2_digitAt_38 : decode cX2_digitAt 38 = .ok (.iload_n 2, 1) := by decide +kernel
theorem dX2_digitAt_39 : decode cX2_digitAt 39 = .ok (.bipush 48, 2) := by decide +kernel
theorem dX2_digitAt_41 : decode cX2_digitAt 41 = .ok (.isub, 1) := by decide +kernel
theorem dX2_digitAt_42 : decode cX2_digitAt 42 = .ok (.goto 4, 3) := by decide +kernel
theorem dX2_digitAt_45 : decode cX2_digitAt 45 = .ok (.iconst (-1), 1) := by decide +kernel
theorem dX2_digitAt_46 : decode cX2_digitAt 46 = .ok (.ireturn, 1) := by decide +kernel
theorem dX4_init_0 : decode cX4_init 0 = .ok (.aload_n 0, 1) := by decide +kernel
theorem dX4_init_1 : decode cX4_init 1 = .ok (.invokespecial 3, 3) := by decide +kernel
theorem dX4_init_4 : decode cX4_init 4 = .ok (.aload_n 0, 1) := by decide +kernel
theorem dX4_init_5 : decode cX4_init 5 = .ok (.bipush 8, 2) := by decide +kernel
theorem dX4_init_7 : decode cX4_init 7 = .ok (.anewarray 9, 3) := by decide +kernel
theorem dX4_init_10 : decode cX4_init 10 = .ok (.putfield 11, 3) := by decide +kernel
theorem dX4_init_13 : decode cX4_init 13 = .ok (.aload_n 0, 1) := by decide +kernel
theorem dX4_init_14 : decode cX4_init 14 = .ok (.iconst 0, 1) := by decide +kernel
theorem dX4_init_15 : decode cX4_init 15 = .ok (.putfield 17, 3) := by decide +kernel
theorem dX4_init_18 : decode cX4_init 18 = .ok (.aload_n 0, 1) := by decide +kernel
theorem dX4_init_19 : decode cX4_init 19 = .ok (.iconst 0, 1) := by decide +kernel
theorem dX4_init_20 : decode cX4_init 20 = .ok (.putfield 21, 3) := by decide +kernel
theorem dX4_init_23 : decode cX4_init 23 = .ok (.iconst 0, 1) := by decide +kernel
theorem dX4_init_24 : decode cX4_init 24 = .ok (.istore_n 1, 1) := by decide +kernel
theorem dX4_init_25 : decode cX4_init 25 = .ok (.iload_n 1, 1) := by decide +kernel
theorem dX4_init_26 : decode cX4_init 26 = .ok (.aload_n 0, 1) := by decide +kernel
theorem dX4_init_27 : decode cX4_init 27 = .ok (.getfield 11, 3) := by decide +kernel
theorem dX4_init_30 : decode cX4_init 30 = .ok (.arraylength, 1) := by decide +kernel
theorem dX4_init_31 : decode cX4_init 31 = .ok (.if_icmp .ge 22, 3) := by decide +kernel
theorem dX4_init_34 : decode cX4_init 34 = .ok (.aload_n 0, 1) := by decide +kernel
theorem dX4_init_35 : decode cX4_init 35 = .ok (.getfield 11, 3) := by decide +kernel
theorem dX4_init_38 : decode cX4_init 38 = .ok (.iload_n 1, 1) := by decide +kernel
theorem dX4_init_39 : decode cX4_init 39 = .ok (.new 9, 3) := by decide +kernel
theorem dX4_init_42 : decode cX4_init 42 = .ok (.dup, 1) := by decide +kernel
theorem dX4_init_43 : decode cX4_init 43 = .ok (.invokespecial 24, 3) := by decide +kernel
theorem dX4_init_46 : decode cX4_init 46 = .ok (.aastore, 1) := by decide +kernel
theorem dX4_init_47 : decode cX4_init 47 = .ok (.iinc 1 1, 3) := by decide +kernel
theorem dX4_init_50 : decode cX4_init 50 = .ok (.goto (-25), 3) := by decide +kernel
theorem dX4_init_53 : decode cX4_init 53 = .ok (.return_, 1) := by decide +kernel
theorem dX4_push_0 : decode cX4_push 0 = .ok (.aload_n 0, 1) := by decide +kernel
theorem dX4_push_1 : decode cX4_push 1 = .ok (.aload_n 0, 1) := by decide +kernel
theorem dX4_push_2 : decode cX4_push 2 = .ok (.getfield 17, 3) := by decide +kernel
theorem dX4_push_5 : decode cX4_push 5 = .ok (.iconst 1, 1) := by decide +kernel
theorem dX4_push_6 : decode cX4_push 6 = .ok (.iadd, 1) := by decide +kernel
theorem dX4_push_7 : decode cX4_push 7 = .ok (.aload_n 0, 1) := by decide +kernel
theorem dX4_push_8 : decode cX4_push 8 = .ok (.getfield 11, 3) := by decide +kernel
theorem dX4_push_11 : decode cX4_push 11 = .ok (.arraylength, 1) := by decide +kernel
theorem dX4_push_12 : decode cX4_push 12 = .ok (.if_icmp .ge 12, 3) := by decide +kernel
theorem dX4_push_15 : decode cX4_push 15 = .ok (.aload_n 0, 1) := by decide +kernel
theorem dX4_push_16 : decode cX4_push 16 = .ok (.getfield 17, 3) := by decide +kernel
theorem dX4_push_19 : decode cX4_push 19 = .ok (.iconst 1, 1) := by decide +kernel
theorem dX4_push_20 : decode cX4_push 20 = .ok (.iadd, 1) := by decide +kernel
theorem dX4_push_21 : decode cX4_push 21 = .ok (.goto 4, 3) := by decide +kernel
theorem dX4_push_24 : decode cX4_push 24 = .ok (.iconst 0, 1) := by decide +kernel
theorem dX4_push_25 : decode cX4_push 25 = .ok (.putfield 17, 3) := by decide +kernel
theorem dX4_push_28 : decode cX4_push 28 = .ok (.aload_n 0, 1) := by decide +kernel
theorem dX4_push_29 : decode cX4_push 29 = .ok (.aload_n 0, 1) := by decide +kernel
theorem dX4_push_30 : decode cX4_push 30 = .ok (.getfield 21, 3) := by decide +kernel
theorem dX4_push_33 : decode cX4_push 33 = .ok (.iconst 1, 1) := by decide +kernel
theorem dX4_push_34 : decode cX4_push 34 = .ok (.iadd, 1) := by decide +kernel
theorem dX4_push_35 : decode cX4_push 35 = .ok (.bipush 8, 2) := by decide +kernel
theorem dX4_push_37 : decode cX4_push 37 = .ok (.invokestatic 25, 3) := by decide +kernel
theorem dX4_push_40 : decode cX4_push 40 = .ok (.putfield 21, 3) := by decide +kernel
theorem dX4_push_43 : decode cX4_push 43 = .ok (.aload_n 0, 1) := by decide +kernel
theorem dX4_push_44 : decode cX4_push 44 = .ok (.invokevirtual 31, 3) := by decide +kernel
theorem dX4_push_47 : decode cX4_push 47 = .ok (.astore_n 2, 1) := by decide +kernel
theorem dX4_push_48 : decode cX4_push 48 = .ok (.aload_n 2, 1) := by decide +kernel
theorem dX4_push_49 : decode cX4_push 49 = .ok (.ifnull 8, 3) := by decide +kernel
theorem dX4_push_52 : decode cX4_push 52 = .ok (.aload_n 2, 1) := by decide +kernel
theorem dX4_push_53 : decode cX4_push 53 = .ok (.aload_n 1, 1) := by decide +kernel
theorem dX4_push_54 : decode cX4_push 54 = .ok (.invokevirtual 35, 3) := by decide +kernel
theorem dX4_push_57 : decode cX4_push 57 = .ok (.return_, 1) := by decide +kernel
theorem dX4_popInto_0 : decode cX4_popInto 0 = .ok (.aload_n 0, 1) := by decide +kernel
theorem dX4_popInto_1 : decode cX4_popInto 1 = .ok (.invokevirtual 31, 3) := by decide +kernel
theorem dX4_popInto_4 : decode cX4_popInto 4 = .ok (.astore_n 2, 1) := by decide +kernel
theorem dX4_popInto_5 : decode cX4_popInto 5 = .ok (.aload_n 2, 1) := by decide +kernel
theorem dX4_popInto_6 : decode cX4_popInto 6 = .ok (.ifnull 8, 3) := by decide +kernel
theorem dX4_popInto_9 : decode cX4_popInto 9 = .ok (.aload_n 1, 1) := by decide +kernel
theorem dX4_popInto_10 : decode cX4_popInto 10 = .ok (.aload_n 2, 1) := by decide +kernel
theorem dX4_popInto_11 : decode cX4_popInto 11 = .ok (.invokevirtual 35, 3) := by decide +kernel
theorem dX4_popInto_14 : decode cX4_popInto 14 = .ok (.aload_n 0, 1) := by decide +kernel
theorem dX4_popInto_15 : decode cX4_popInto 15 = .ok (.aload_n 0, 1) := by decide +kernel
theorem dX4_popInto_16 : decode cX4_popInto 16 = .ok (.getfield 17, 3) := by decide +kernel
theorem dX4_popInto_19 : decode cX4_popInto 19 = .ok (.ifCond .le 12, 3) := by decide +kernel
theorem dX4_popInto_22 : decode cX4_popInto 22 = .ok (.aload_n 0, 1) := by decide +kernel
theorem dX4_popInto_23 : decode cX4_popInto 23 = .ok (.getfield 17, 3) := by decide +kernel
theorem dX4_popInto_26 : decode cX4_popInto 26 = .ok (.iconst 1, 1) := by decide +kernel
theorem dX4_popInto_27 : decode cX4_popInto 27 = .ok (.isub, 1) := by decide +kernel
theorem dX4_popInto_28 : decode cX4_popInto 28 = .ok (.goto 10, 3) := by decide +kernel
theorem dX4_popInto_31 : decode cX4_popInto 31 = .ok (.aload_n 0, 1) := by decide +kernel
theorem dX4_popInto_32 : decode cX4_popInto 32 = .ok (.getfield 11, 3) := by decide +kernel
theorem dX4_popInto_35 : decode cX4_popInto 35 = .ok (.arraylength, 1) := by decide +kernel
theorem dX4_popInto_36 : decode cX4_popInto 36 = .ok (.iconst 1, 1) := by decide +kernel
theorem dX4_popInto_37 : decode cX4_popInto 37 = .ok (.isub, 1) := by decide +kernel
theorem dX4_popInto_38 : decode cX4_popInto 38 = .ok (.putfield 17, 3) := by decide +kernel
theorem dX4_popInto_41 : decode cX4_popInto 41 = .ok (.aload_n 0, 1) := by decide +kernel
theorem dX4_popInto_42 : decode cX4_popInto 42 = .ok (.aload_n 0, 1) := by decide +kernel
theorem dX4_popInto_43 : decode cX4_popInto 43 = .ok (.getfield 21, 3) := by decide +kernel
theorem dX4_popInto_46 : decode cX4_popInto 46 = .ok (.iconst 1, 1) := by decide +kernel
theorem dX4_popInto_47 : decode cX4_popInto 47 = .ok (.isub, 1) := by decide +kernel
theorem dX4_popInto_48 : decode cX4_popInto 48 = .ok (.iconst 0, 1) := by decide +kernel
theorem dX4_popInto_49 : decode cX4_popInto 49 = .ok (.invokestatic 39, 3) := by decide +kernel
theorem dX4_popInto_52 : decode cX4_popInto 52 = .ok (.putfield 21, 3) := by decide +kernel
theorem dX4_popInto_55 : decode cX4_popInto 55 = .ok (.return_, 1) := by decide +kernel
theorem dX4_newestRow_0 : decode cX4_newestRow 0 = .ok (.aload_n 0, 1) := by decide +kernel
theorem dX4_newestRow_1 : decode cX4_newestRow 1 = .ok (.getfield 17, 3) := by decide +kernel
theorem dX4_newestRow_4 : decode cX4_newestRow 4 = .ok (.ifCond .lt 27, 3) := by decide +kernel
theorem dX4_newestRow_7 : decode cX4_newestRow 7 = .ok (.aload_n 0, 1) := by decide +kernel
theorem dX4_newestRow_8 : decode cX4_newestRow 8 = .ok (.getfield 17, 3) := by decide +kernel
theorem dX4_newestRow_11 : decode cX4_newestRow 11 = .ok (.aload_n 0, 1) := by decide +kernel
theorem dX4_newestRow_12 : decode cX4_newestRow 12 = .ok (.getfield 11, 3) := by decide +kernel
theorem dX4_newestRow_15 : decode cX4_newestRow 15 = .ok (.arraylength, 1) := by decide +kernel
theorem dX4_newestRow_16 : decode cX4_newestRow 16 = .ok (.if_icmp .ge 15, 3) := by decide +kernel
theorem dX4_newestRow_19 : decode cX4_newestRow 19 = .ok (.aload_n 0, 1) := by decide +kernel
theorem dX4_newestRow_20 : decode cX4_newestRow 20 = .ok (.getfield 11, 3) := by decide +kernel
theorem dX4_newestRow_23 : decode cX4_newestRow 23 = .ok (.aload_n 0, 1) := by decide +kernel
theorem dX4_newestRow_24 : decode cX4_newestRow 24 = .ok (.getfield 17, 3) := by decide +kernel
theorem dX4_newestRow_27 : decode cX4_newestRow 27 = .ok (.aaload, 1) := by decide +kernel
theorem dX4_newestRow_28 : decode cX4_newestRow 28 = .ok (.goto 4, 3) := by decide +kernel
theorem dX4_newestRow_31 : decode cX4_newestRow 31 = .ok (.aconst_null, 1) := by decide +kernel
theorem dX4_newestRow_32 : decode cX4_newestRow 32 = .ok (.areturn, 1) := by decide +kernel
theorem dX5_init_0 : decode cX5_init 0 = .ok (.aload_n 0, 1) := by decide +kernel
theorem dX5_init_1 : decode cX5_init 1 = .ok (.invokespecial 3, 3) := by decide +kernel
theorem dX5_init_4 : decode cX5_init 4 = .ok (.aload_n 0, 1) := by decide +kernel
theorem dX5_init_5 : decode cX5_init 5 = .ok (.iconst (-1), 1) := by decide +kernel
theorem dX5_init_6 : decode cX5_init 6 = .ok (.putfield 9, 3) := by decide +kernel
theorem dX5_init_9 : decode cX5_init 9 = .ok (.aload_n 0, 1) := by decide +kernel
theorem dX5_init_10 : decode cX5_init 10 = .ok (.iconst 0, 1) := by decide +kernel
theorem dX5_init_11 : decode cX5_init 11 = .ok (.putfield 15, 3) := by decide +kernel
theorem dX5_init_14 : decode cX5_init 14 = .ok (.aload_n 0, 1) := by decide +kernel
theorem dX5_init_15 : decode cX5_init 15 = .ok (.iconst 0, 1) := by decide +kernel
theorem dX5_init_16 : decode cX5_init 16 = .ok (.putfield 18, 3) := by decide +kernel
theorem dX5_init_19 : decode cX5_init 19 = .ok (.return_, 1) := by decide +kernel
theorem dX5_consider_0 : decode cX5_consider 0 = .ok (.iload_n 2, 1) := by decide +kernel
theorem dX5_consider_1 : decode cX5_consider 1 = .ok (.iload_n 3, 1) := by decide +kernel
theorem dX5_consider_2 : decode cX5_consider 2 = .ok (.invokestatic 21, 3) := by decide +kernel
theorem dX5_consider_5 : decode cX5_consider 5 = .ok (.istore 4, 2) := by decide +kernel
theorem dX5_consider_7 : decode cX5_consider 7 = .ok (.iload_n 2, 1) := by decide +kernel
theorem dX5_consider_8 : decode cX5_consider 8 = .ok (.iload_n 3, 1) := by decide +kernel
theorem dX5_consider_9 : decode cX5_consider 9 = .ok (.isub, 1) := by decide +kernel
theorem dX5_consider_10 : decode cX5_consider 10 = .ok (.invokestatic 27, 3) := by decide +kernel
theorem dX5_consider_13 : decode cX5_consider 13 = .ok (.istore 5, 2) := by decide +kernel
theorem dX5_consider_15 : decode cX5_consider 15 = .ok (.iload 4, 2) := by decide +kernel
theorem dX5_consider_17 : decode cX5_consider 17 = .ok (.aload_n 0, 1) := by decide +kernel
theorem dX5_consider_18 : decode cX5_consider 18 = .ok (.getfield 15, 3) := by decide +kernel
theorem dX5_consider_21 : decode cX5_consider 21 = .ok (.if_icmp .gt 21, 3) := by decide +kernel
theorem dX5_consider_24 : decode cX5_consider 24 = .ok (.iload 4, 2) := by decide +kernel
theorem dX5_consider_26 : decode cX5_consider 26 = .ok (.aload_n 0, 1) := by decide +kernel
theorem dX5_consider_27 : decode cX5_consider 27 = .ok (.getfield 15, 3) := by decide +kernel
theorem dX5_consider_30 : decode cX5_consider 30 = .ok (.if_icmp .ne 29, 3) := by decide +kernel
theorem dX5_consider_33 : decode cX5_consider 33 = .ok (.iload 5, 2) := by decide +kernel
theorem dX5_consider_35 : decode cX5_consider 35 = .ok (.aload_n 0, 1) := by decide +kernel
theorem dX5_consider_36 : decode cX5_consider 36 = .ok (.getfield 18, 3) := by decide +kernel
theorem dX5_consider_39 : decode cX5_consider 39 = .ok (.if_icmp .ge 20, 3) := by decide +kernel
theorem dX5_consider_42 : decode cX5_consider 42 = .ok (.aload_n 0, 1) := by decide +kernel
theorem dX5_consider_43 : decode cX5_consider 43 = .ok (.iload_n 1, 1) := by decide +kernel
theorem dX5_consider_44 : decode cX5_consider 44 = .ok (.putfield 9, 3) := by decide +kernel
theorem dX5_consider_47 : decode cX5_consider 47 = .ok (.aload_n 0, 1) := by decide +kernel
theorem dX5_consider_48 : decode cX5_consider 48 = .ok (.iload 4, 2) := by decide +kernel
theorem dX5_consider_50 : decode cX5_consider 50 = .ok (.putfield 15, 3) := by decide +kernel
theorem dX5_consider_53 : decode cX5_consider 53 = .ok (.aload_n 0, 1) := by decide +kernel
theorem dX5_consider_54 : decode cX5_consider 54 = .ok (.iload 5, 2) := by decide +kernel
theorem dX5_consider_56 : decode cX5_consider 56 = .ok (.putfield 18, 3) := by decide +kernel
theorem dX5_consider_59 : decode cX5_consider 59 = .ok (.return_, 1) := by decide +kernel
theorem dX6_init_0 : decode cX6_init 0 = .ok (.aload_n 0, 1) := by decide +kernel
theorem dX6_init_1 : decode cX6_init 1 = .ok (.invokespecial 3, 3) := by decide +kernel
theorem dX6_init_4 : decode cX6_init 4 = .ok (.aload_n 0, 1) := by decide +kernel
theorem dX6_init_5 : decode cX6_init 5 = .ok (.new 9, 3) := by decide +kernel
theorem dX6_init_8 : decode cX6_init 8 = .ok (.dup, 1) := by decide +kernel
theorem dX6_init_9 : decode cX6_init 9 = .ok (.bipush 100, 2) := by decide +kernel
theorem dX6_init_11 : decode cX6_init 11 = .ok (.invokespecial 11, 3) := by decide +kernel
theorem dX6_init_14 : decode cX6_init 14 = .ok (.putfield 14, 3) := by decide +kernel
theorem dX6_init_17 : decode cX6_init 17 = .ok (.aload_n 0, 1) := by decide +kernel
theorem dX6_init_18 : decode cX6_init 18 = .ok (.new 9, 3) := by decide +kernel
theorem dX6_init_21 : decode cX6_init 21 = .ok (.dup, 1) := by decide +kernel
theorem dX6_init_22 : decode cX6_init 22 = .ok (.bipush 100, 2) := by decide +kernel
theorem dX6_init_24 : decode cX6_init 24 = .ok (.invokespecial 11, 3) := by decide +kernel
theorem dX6_init_27 : decode cX6_init 27 = .ok (.putfield 20, 3) := by decide +kernel
theorem dX6_init_30 : decode cX6_init 30 = .ok (.return_, 1) := by decide +kernel
theorem dX6_gather_0 : decode cX6_gather 0 = .ok (.aload_n 0, 1) := by decide +kernel
theorem dX6_gather_1 : decode cX6_gather 1 = .ok (.getfield 14, 3) := by decide +kernel
theorem dX6_gather_4 : decode cX6_gather 4 = .ok (.invokevirtual 23, 3) := by decide +kernel
theorem dX6_gather_7 : decode cX6_gather 7 = .ok (.aload_n 0, 1) := by decide +kernel
theorem dX6_gather_8 : decode cX6_gather 8 = .ok (.getfield 20, 3) := by decide +kernel
theorem dX6_gather_11 : decode cX6_gather 11 = .ok (.invokevirtual 23, 3) := by decide +kernel
theorem dX6_gather_14 : decode cX6_gather 14 = .ok (.iconst 0, 1) := by decide +kernel
theorem dX6_gather_15 : decode cX6_gather 15 = .ok (.istore_n 2, 1) := by decide +kernel
theorem dX6_gather_16 : decode cX6_gather 16 = .ok (.iload_n 2, 1) := by decide +kernel
theorem dX6_gather_17 : decode cX6_gather 17 = .ok (.aload_n 1, 1) := by decide +kernel
theorem dX6_gather_18 : decode cX6_gather 18 = .ok (.getfield 26, 3) := by decide +kernel
theorem dX6_gather_21 : decode cX6_gather 21 = .ok (.if_icmp .ge 49, 3) := by decide +kernel
theorem dX6_gather_24 : decode cX6_gather 24 = .ok (.aload_n 1, 1) := by decide +kernel
theorem dX6_gather_25 : decode cX6_gather 25 = .ok (.iload_n 2, 1) := by decide +kernel
theorem dX6_gather_26 : decode cX6_gather 26 = .ok (.invokevirtual 32, 3) := by decide +kernel
theorem dX6_gather_29 : decode cX6_gather 29 = .ok (.ifCond .eq 10, 3) := by decide +kernel
theorem dX6_gather_32 : decode cX6_gather 32 = .ok (.aload_n 0, 1) := by decide +kernel
theorem dX6_gather_33 : decode cX6_gather 33 = .ok (.getfield 14, 3) := by decide +kernel
theorem dX6_gather_36 : decode cX6_gather 36 = .ok (.goto 7, 3) := by decide +kernel
theorem dX6_gather_39 : decode cX6_gather 39 = .ok (.aload_n 0, 1) := by decide +kernel
theorem dX6_gather_40 : decode cX6_gather 40 = .ok (.getfield 20, 3) := by decide +kernel
theorem dX6_gather_43 : decode cX6_gather 43 = .ok (.astore_n 3, 1) := by decide +kernel
theorem dX6_gather_44 : decode cX6_gather 44 = .ok (.aload_n 3, 1) := by decide +kernel
theorem dX6_gather_45 : decode cX6_gather 45 = .ok (.aload_n 1, 1) := by decide +kernel
theorem dX6_gather_46 : decode cX6_gather 46 = .ok (.getfield 36, 3) := by decide +kernel
theorem dX6_gather_49 : decode cX6_gather 49 = .ok (.iload_n 2, 1) := by decide +kernel
theorem dX6_gather_50 : decode cX6_gather 50 = .ok (.invokevirtual 39, 3) := by decide +kernel
theorem dX6_gather_53 : decode cX6_gather 53 = .ok (.aload_n 1, 1) := by decide +kernel
theorem dX6_gather_54 : decode cX6_gather 54 = .ok (.getfield 43, 3) := by decide +kernel
theorem dX6_gather_57 : decode cX6_gather 57 = .ok (.iload_n 2, 1) := by decide +kernel
theorem dX6_gather_58 : decode cX6_gather 58 = .ok (.invokevirtual 39, 3) := by decide +kernel
theorem dX6_gather_61 : decode cX6_gather 61 = .ok (.invokevirtual 46, 3) := by decide +kernel
theorem dX6_gather_64 : decode cX6_gather 64 = .ok (.iinc 2 1, 3) := by decide +kernel
theorem dX6_gather_67 : decode cX6_gather 67 = .ok (.goto (-51), 3) := by decide +kernel
theorem dX6_gather_70 : decode cX6_gather 70 = .ok (.return_, 1) := by decide +kernel
theorem dX6_spreadOfSums_0 : decode cX6_spreadOfSums 0 = .ok (.iconst (-1), 1) := by decide +kernel
theorem dX6_spreadOfSums_1 : decode cX6_spreadOfSums 1 = .ok (.istore_n 1, 1) := by decide +kernel
theorem dX6_spreadOfSums_2 : decode cX6_spreadOfSums 2 = .ok (.iconst (-1), 1) := by decide +kernel
theorem dX6_spreadOfSums_3 : decode cX6_spreadOfSums 3 = .ok (.istore_n 2, 1) := by decide +kernel
theorem dX6_spreadOfSums_4 : decode cX6_spreadOfSums 4 = .ok (.iconst 1, 1) := by decide +kernel
theorem dX6_spreadOfSums_5 : decode cX6_spreadOfSums 5 = .ok (.istore_n 3, 1) := by decide +kernel
theorem dX6_spreadOfSums_6 : decode cX6_spreadOfSums 6 = .ok (.iload_n 3, 1) := by decide +kernel
theorem dX6_spreadOfSums_7 : decode cX6_spreadOfSums 7 = .ok (.bipush 99, 2) := by decide +kernel
theorem dX6_spreadOfSums_9 : decode cX6_spreadOfSums 9 = .ok (.if_icmp .gt 40, 3) := by decide +kernel
theorem dX6_spreadOfSums_12 : decode cX6_spreadOfSums 12 = .ok (.aload_n 0, 1) := by decide +kernel
theorem dX6_spreadOfSums_13 : decode cX6_spreadOfSums 13 = .ok (.getfield 14, 3) := by decide +kernel
theorem dX6_spreadOfSums_16 : decode cX6_spreadOfSums 16 = .ok (.iload_n 3, 1) := by decide +kernel
theorem dX6_spreadOfSums_17 : decode cX6_spreadOfSums 17 = .ok (.invokevirtual 39, 3) := by decide +kernel
theorem dX6_spreadOfSums_20 : decode cX6_spreadOfSums 20 = .ok (.ifCond .le 5, 3) := by decide +kernel
theorem dX6_spreadOfSums_23 : decode cX6_spreadOfSums 23 = .ok (.iload_n 3, 1) := by decide +kernel
theorem dX6_spreadOfSums_24 : decode cX6_spreadOfSums 24 = .ok (.istore_n 1, 1) := by decide +kernel
theorem dX6_spreadOfSums_25 : decode cX6_spreadOfSums 25 = .ok (.aload_n 0, 1) := by decide +kernel
theorem dX6_spreadOfSums_26 : decode cX6_spreadOfSums 26 = .ok (.getfield 20, 3) := by decide +kernel
theorem dX6_spreadOfSums_29 : decode cX6_spreadOfSums 29 = .ok (.iload_n 3, 1) := by decide +kernel
theorem dX6_spreadOfSums_30 : decode cX6_spreadOfSums 30 = .ok (.invokevirtual 39, 3) := by decide +kernel
theorem dX6_spreadOfSums_33 : decode cX6_spreadOfSums 33 = .ok (.ifCond .le 10, 3) := by decide +kernel
theorem dX6_spreadOfSums_36 : decode cX6_spreadOfSums 36 = .ok (.iload_n 2, 1) := by decide +kernel
theorem dX6_spreadOfSums_37 : decode cX6_spreadOfSums 37 = .ok (.iconst (-1), 1) := by decide +kernel
theorem dX6_spreadOfSums_38 : decode cX6_spreadOfSums 38 = .ok (.if_icmp .ne 5, 3) := by decide +kernel
theorem dX6_spreadOfSums_41 : decode cX6_spreadOfSums 41 = .ok (.iload_n 3, 1) := by decide +kernel
theorem dX6_spreadOfSums_42 : decode cX6_spreadOfSums 42 = .ok (.istore_n 2, 1) := by decide +kernel
theorem dX6_spreadOfSums_43 : decode cX6_spreadOfSums 43 = .ok (.iinc 3 1, 3) := by decide +kernel
theorem dX6_spreadOfSums_46 : decode cX6_spreadOfSums 46 = .ok (.goto (-40), 3) := by decide +kernel
theorem dX6_spreadOfSums_49 : decode cX6_spreadOfSums 49 = .ok (.iload_n 1, 1) := by decide +kernel
theorem dX6_spreadOfSums_50 : decode cX6_spreadOfSums 50 = .ok (.iconst (-1), 1) := by decide +kernel
theorem dX6_spreadOfSums_51 : decode cX6_spreadOfSums 51 = .ok (.if_icmp .eq 8, 3) := by decide +kernel
theorem dX6_spreadOfSums_54 : decode cX6_spreadOfSums 54 = .ok (.iload_n 2, 1) := by decide +kernel
theorem dX6_spreadOfSums_55 : decode cX6_spreadOfSums 55 = .ok (.iconst (-1), 1) := by decide +kernel
theorem dX6_spreadOfSums_56 : decode cX6_spreadOfSums 56 = .ok (.if_icmp .ne 9, 3) := by decide +kernel
theorem dX6_spreadOfSums_59 : decode cX6_spreadOfSums 59 = .ok (.sipush 1000, 3) := by decide +kernel
theorem dX6_spreadOfSums_62 : decode cX6_spreadOfSums 62 = .ok (.goto 6, 3) := by decide +kernel
theorem dX6_spreadOfSums_65 : decode cX6_spreadOfSums 65 = .ok (.iload_n 2, 1) := by decide +kernel
theorem dX6_spreadOfSums_66 : decode cX6_spreadOfSums 66 = .ok (.iload_n 1, 1) := by decide +kernel
theorem dX6_spreadOfSums_67 : decode cX6_spreadOfSums 67 = .ok (.isub, 1) := by decide +kernel
theorem dX6_spreadOfSums_68 : decode cX6_spreadOfSums 68 = .ok (.ireturn, 1) := by decide +kernel
theorem dX6_poolBySums_0 : decode cX6_poolBySums 0 = .ok (.new 50, 3) := by decide +kernel
theorem dX6_poolBySums_3 : decode cX6_poolBySums 3 = .ok (.dup, 1) := by decide +kernel
theorem dX6_poolBySums_4 : decode cX6_poolBySums 4 = .ok (.invokespecial 52, 3) := by decide +kernel
theorem dX6_poolBySums_7 : decode cX6_poolBySums 7 = .ok (.astore_n 1, 1) := by decide +kernel
theorem dX6_poolBySums_8 : decode cX6_poolBySums 8 = .ok (.aload_n 0, 1) := by decide +kernel
theorem dX6_poolBySums_9 : decode cX6_poolBySums 9 = .ok (.getfield 14, 3) := by decide +kernel
theorem dX6_poolBySums_12 : decode cX6_poolBySums 12 = .ok (.invokevirtual 53, 3) := by decide +kernel
theorem dX6_poolBySums_15 : decode cX6_poolBySums 15 = .ok (.istore_n 2, 1) := by decide +kernel
theorem dX6_poolBySums_16 : decode cX6_poolBySums 16 = .ok (.iconst 0, 1) := by decide +kernel
theorem dX6_poolBySums_17 : decode cX6_poolBySums 17 = .ok (.istore_n 3, 1) := by decide +kernel
theorem dX6_poolBySums_18 : decode cX6_poolBySums 18 = .ok (.iconst 1, 1) := by decide +kernel
theorem dX6_poolBySums_19 : decode cX6_poolBySums 19 = .ok (.istore 4, 2) := by decide +kernel
theorem dX6_poolBySums_21 : decode cX6_poolBySums 21 = .ok (.iload 4, 2) := by decide +kernel
theorem dX6_poolBySums_23 : decode cX6_poolBySums 23 = .ok (.bipush 99, 2) := by decide +kernel
theorem dX6_poolBySums_25 : decode cX6_poolBySums 25 = .ok (.if_icmp .gt 43, 3) := by decide +kernel
theorem dX6_poolBySums_28 : decode cX6_poolBySums 28 = .ok (.iload_n 2, 1) := by decide +kernel
theorem dX6_poolBySums_29 : decode cX6_poolBySums 29 = .ok (.aload_n 0, 1) := by decide +kernel
theorem dX6_poolBySums_30 : decode cX6_poolBySums 30 = .ok (.getfield 14, 3) := by decide +kernel
theorem dX6_poolBySums_33 : decode cX6_poolBySums 33 = .ok (.iload 4, 2) := by decide +kernel
theorem dX6_poolBySums_35 : decode cX6_poolBySums 35 = .ok (.iconst 1, 1) := by decide +kernel
theorem dX6_poolBySums_36 : decode cX6_poolBySums 36 = .ok (.isub, 1) := by decide +kernel
theorem dX6_poolBySums_37 : decode cX6_poolBySums 37 = .ok (.invokevirtual 39, 3) := by decide +kernel
theorem dX6_poolBySums_40 : decode cX6_poolBySums 40 = .ok (.isub, 1) := by decide +kernel
theorem dX6_poolBySums_41 : decode cX6_poolBySums 41 = .ok (.istore_n 2, 1) := by decide +kernel
theorem dX6_poolBySums_42 : decode cX6_poolBySums 42 = .ok (.iload_n 3, 1) := by decide +kernel
theorem dX6_poolBySums_43 : decode cX6_poolBySums 43 = .ok (.aload_n 0, 1) := by decide +kernel
theorem dX6_poolBySums_44 : decode cX6_poolBySums 44 = .ok (.getfield 20, 3) := by decide +kernel
theorem dX6_poolBySums_47 : decode cX6_poolBySums 47 = .ok (.iload 4, 2) := by decide +kernel
theorem dX6_poolBySums_49 : decode cX6_poolBySums 49 = .ok (.invokevirtual 39, 3) := by decide +kernel
theorem dX6_poolBySums_52 : decode cX6_poolBySums 52 = .ok (.iadd, 1) := by decide +kernel
theorem dX6_poolBySums_53 : decode cX6_poolBySums 53 = .ok (.istore_n 3, 1) := by decide +kernel
theorem dX6_poolBySums_54 : decode cX6_poolBySums 54 = .ok (.aload_n 1, 1) := by decide +kernel
theorem dX6_poolBySums_55 : decode cX6_poolBySums 55 = .ok (.iload 4, 2) := by decide +kernel
theorem dX6_poolBySums_57 : decode cX6_poolBySums 57 = .ok (.iload_n 2, 1) := by decide +kernel
theorem dX6_poolBySums_58 : decode cX6_poolBySums 58 = .ok (.iload_n 3, 1) := by decide +kernel
theorem dX6_poolBySums_59 : decode cX6_poolBySums 59 = .ok (.invokevirtual 57, 3) := by decide +kernel
theorem dX6_poolBySums_62 : decode cX6_poolBySums 62 = .ok (.iinc 4 1, 3) := by decide +kernel
theorem dX6_poolBySums_65 : decode cX6_poolBySums 65 = .ok (.goto (-44), 3) := by decide +kernel
theorem dX6_poolBySums_68 : decode cX6_poolBySums 68 = .ok (.aload_n 1, 1) := by decide +kernel
theorem dX6_poolBySums_69 : decode cX6_poolBySums 69 = .ok (.areturn, 1) := by decide +kernel
theorem dX7_init_0 : decode cX7_init 0 = .ok (.aload_n 0, 1) := by decide +kernel
theorem dX7_init_1 : decode cX7_init 1 = .ok (.invokespecial 1, 3) := by decide +kernel
theorem dX7_init_4 : decode cX7_init 4 = .ok (.aload_n 0, 1) := by decide +kernel
theorem dX7_init_5 : decode cX7_init 5 = .ok (.iload_n 1, 1) := by decide +kernel
theorem dX7_init_6 : decode cX7_init 6 = .ok (.iconst 0, 1) := by decide +kernel
theorem dX7_init_7 : decode cX7_init 7 = .ok (.invokestatic 7, 3) := by decide +kernel
theorem dX7_init_10 : decode cX7_init 10 = .ok (.newarray .int, 2) := by decide +kernel
theorem dX7_init_12 : decode cX7_init 12 = .ok (.putfield 13, 3) := by decide +kernel
theorem dX7_init_15 : decode cX7_init 15 = .ok (.return_, 1) := by decide +kernel
theorem dX7_get_0 : decode cX7_get 0 = .ok (.iload_n 1, 1) := by decide +kernel
theorem dX7_get_1 : decode cX7_get 1 = .ok (.ifCond .lt 21, 3) := by decide +kernel
theorem dX7_get_4 : decode cX7_get 4 = .ok (.iload_n 1, 1) := by decide +kernel
theorem dX7_get_5 : decode cX7_get 5 = .ok (.aload_n 0, 1) := by decide +kernel
theorem dX7_get_6 : decode cX7_get 6 = .ok (.getfield 13, 3) := by decide +kernel
theorem dX7_get_9 : decode cX7_get 9 = .ok (.arraylength, 1) := by decide +kernel
theorem dX7_get_10 : decode cX7_get 10 = .ok (.if_icmp .ge 12, 3) := by decide +kernel
theorem dX7_get_13 : decode cX7_get 13 = .ok (.aload_n 0, 1) := by decide +kernel
theorem dX7_get_14 : decode cX7_get 14 = .ok (.getfield 13, 3) := by decide +kernel
theorem dX7_get_17 : decode cX7_get 17 = .ok (.iload_n 1, 1) := by decide +kernel
theorem dX7_get_18 : decode cX7_get 18 = .ok (.iaload, 1) := by decide +kernel
theorem dX7_get_19 : decode cX7_get 19 = .ok (.goto 4, 3) := by decide +kernel
theorem dX7_get_22 : decode cX7_get 22 = .ok (.iconst 0, 1) := by decide +kernel
theorem dX7_get_23 : decode cX7_get 23 = .ok (.ireturn, 1) := by decide +kernel
theorem dX7_set_0 : decode cX7_set 0 = .ok (.iload_n 1, 1) := by decide +kernel
theorem dX7_set_1 : decode cX7_set 1 = .ok (.ifCond .lt 19, 3) := by decide +kernel
theorem dX7_set_4 : decode cX7_set 4 = .ok (.iload_n 1, 1) := by decide +kernel
theorem dX7_set_5 : decode cX7_set 5 = .ok (.aload_n 0, 1) := by decide +kernel
theorem dX7_set_6 : decode cX7_set 6 = .ok (.getfield 13, 3) := by decide +kernel
theorem dX7_set_9 : decode cX7_set 9 = .ok (.arraylength, 1) := by decide +kernel
theorem dX7_set_10 : decode cX7_set 10 = .ok (.if_icmp .ge 10, 3) := by decide +kernel
theorem dX7_set_13 : decode cX7_set 13 = .ok (.aload_n 0, 1) := by decide +kernel
theorem dX7_set_14 : decode cX7_set 14 = .ok (.getfield 13, 3) := by decide +kernel
theorem dX7_set_17 : decode cX7_set 17 = .ok (.iload_n 1, 1) := by decide +kernel
theorem dX7_set_18 : decode cX7_set 18 = .ok (.iload_n 2, 1) := by decide +kernel
theorem dX7_set_19 : decode cX7_set 19 = .ok (.iastore, 1) := by decide +kernel
theorem dX7_set_20 : decode cX7_set 20 = .ok (.return_, 1) := by decide +kernel
theorem dX7_add_0 : decode cX7_add 0 = .ok (.iload_n 1, 1) := by decide +kernel
theorem dX7_add_1 : decode cX7_add 1 = .ok (.ifCond .lt 22, 3) := by decide +kernel
theorem dX7_add_4 : decode cX7_add 4 = .ok (.iload_n 1, 1) := by decide +kernel
theorem dX7_add_5 : decode cX7_add 5 = .ok (.aload_n 0, 1) := by decide +kernel
theorem dX7_add_6 : decode cX7_add 6 = .ok (.getfield 13, 3) := by decide +kernel
theorem dX7_add_9 : decode cX7_add 9 = .ok (.arraylength, 1) := by decide +kernel
theorem dX7_add_10 : decode cX7_add 10 = .ok (.if_icmp .ge 13, 3) := by decide +kernel
theorem dX7_add_13 : decode cX7_add 13 = .ok (.aload_n 0, 1) := by decide +kernel
theorem dX7_add_14 : decode cX7_add 14 = .ok (.getfield 13, 3) := by decide +kernel
theorem dX7_add_17 : decode cX7_add 17 = .ok (.iload_n 1, 1) := by decide +kernel
theorem dX7_add_18 : decode cX7_add 18 = .ok (.dup2, 1) := by decide +kernel
theorem dX7_add_19 : decode cX7_add 19 = .ok (.iaload, 1) := by decide +kernel
theorem dX7_add_20 : decode cX7_add 20 = .ok (.iload_n 2, 1) := by decide +kernel
theorem dX7_add_21 : decode cX7_add 21 = .ok (.iadd, 1) := by decide +kernel
theorem dX7_add_22 : decode cX7_add 22 = .ok (.iastore, 1) := by decide +kernel
theorem dX7_add_23 : decode cX7_add 23 = .ok (.return_, 1) := by decide +kernel
theorem dX7_sum_0 : decode cX7_sum 0 = .ok (.iconst 0, 1) := by decide +kernel
theorem dX7_sum_1 : decode cX7_sum 1 = .ok (.istore_n 1, 1) := by decide +kernel
theorem dX7_sum_2 : decode cX7_sum 2 = .ok (.aload_n 0, 1) := by decide +kernel
theorem dX7_sum_3 : decode cX7_sum 3 = .ok (.getfield 13, 3) := by decide +kernel
theorem dX7_sum_6 : decode cX7_sum 6 = .ok (.astore_n 2, 1) := by decide +kernel
theorem dX7_sum_7 : decode cX7_sum 7 = .ok (.aload_n 2, 1) := by decide +kernel
theorem dX7_sum_8 : decode cX7_sum 8 = .ok (.arraylength, 1) := by decide +kernel
theorem dX7_sum_9 : decode cX7_sum 9 = .ok (.istore_n 3, 1) := by decide +kernel
theorem dX7_sum_10 : decode cX7_sum 10 = .ok (.iconst 0, 1) := by decide +kernel
theorem dX7_sum_11 : decode cX7_sum 11 = .ok (.istore 4, 2) := by decide +kernel
theorem dX7_sum_13 : decode cX7_sum 13 = .ok (.iload 4, 2) := by decide +kernel
theorem dX7_sum_15 : decode cX7_sum 15 = .ok (.iload_n 3, 1) := by decide +kernel
theorem dX7_sum_16 : decode cX7_sum 16 = .ok (.if_icmp .ge 20, 3) := by decide +kernel
theorem dX7_sum_19 : decode cX7_sum 19 = .ok (.aload_n 2, 1) := by decide +kernel
theorem dX7_sum_20 : decode cX7_sum 20 = .ok (.iload 4, 2) := by decide +kernel
theorem dX7_sum_22 : decode cX7_sum 22 = .ok (.iaload, 1) := by decide +kernel
theorem dX7_sum_23 : decode cX7_sum 23 = .ok (.istore 5, 2) := by decide +kernel
theorem dX7_sum_25 : decode cX7_sum 25 = .ok (.iload_n 1, 1) := by decide +kernel
theorem dX7_sum_26 : decode cX7_sum 26 = .ok (.iload 5, 2) := by decide +kernel
theorem dX7_sum_28 : decode cX7_sum 28 = .ok (.iadd, 1) := by decide +kernel
theorem dX7_sum_29 : decode cX7_sum 29 = .ok (.istore_n 1, 1) := by decide +kernel
theorem dX7_sum_30 : decode cX7_sum 30 = .ok (.iinc 4 1, 3) := by decide +kernel
theorem dX7_sum_33 : decode cX7_sum 33 = .ok (.goto (-20), 3) := by decide +kernel
theorem dX7_sum_36 : decode cX7_sum 36 = .ok (.iload_n 1, 1) := by decide +kernel
theorem dX7_sum_37 : decode cX7_sum 37 = .ok (.ireturn, 1) := by decide +kernel
theorem dX7_closeGap_0 : decode cX7_closeGap 0 = .ok (.iload_n 1, 1) := by decide +kernel
theorem dX7_closeGap_1 : decode cX7_closeGap 1 = .ok (.ifCond .lt 12, 3) := by decide +kernel
theorem dX7_closeGap_4 : decode cX7_closeGap 4 = .ok (.iload_n 1, 1) := by decide +kernel
theorem dX7_closeGap_5 : decode cX7_closeGap 5 = .ok (.aload_n 0, 1) := by decide +kernel
theorem dX7_closeGap_6 : decode cX7_closeGap 6 = .ok (.getfield 13, 3) := by decide +kernel
theorem dX7_closeGap_9 : decode cX7_closeGap 9 = .ok (.arraylength, 1) := by decide +kernel
theorem dX7_closeGap_10 : decode cX7_closeGap 10 = .ok (.if_icmp .lt 4, 3) := by decide +kernel
theorem dX7_closeGap_13 : decode cX7_closeGap 13 = .ok (.return_, 1) := by decide +kernel
theorem dX7_closeGap_14 : decode cX7_closeGap 14 = .ok (.iload_n 1, 1) := by decide +kernel
theorem dX7_closeGap_15 : decode cX7_closeGap 15 = .ok (.istore_n 2, 1) := by decide +kernel
theorem dX7_closeGap_16 : decode cX7_closeGap 16 = .ok (.iload_n 2, 1) := by decide +kernel
theorem dX7_closeGap_17 : decode cX7_closeGap 17 = .ok (.iconst 1, 1) := by decide +kernel
theorem dX7_closeGap_18 : decode cX7_closeGap 18 = .ok (.iadd, 1) := by decide +kernel
theorem dX7_closeGap_19 : decode cX7_closeGap 19 = .ok (.aload_n 0, 1) := by decide +kernel
theorem dX7_closeGap_20 : decode cX7_closeGap 20 = .ok (.getfield 13, 3) := by decide +kernel
theorem dX7_closeGap_23 : decode cX7_closeGap 23 = .ok (.arraylength, 1) := by decide +kernel
theorem dX7_closeGap_24 : decode cX7_closeGap 24 = .ok (.if_icmp .ge 23, 3) := by decide +kernel
theorem dX7_closeGap_27 : decode cX7_closeGap 27 = .ok (.aload_n 0, 1) := by decide +kernel
theorem dX7_closeGap_28 : decode cX7_closeGap 28 = .ok (.getfield 13, 3) := by decide +kernel
theorem dX7_closeGap_31 : decode cX7_closeGap 31 = .ok (.iload_n 2, 1) := by decide +kernel
theorem dX7_closeGap_32 : decode cX7_closeGap 32 = .ok (.aload_n 0, 1) := by decide +kernel
theorem dX7_closeGap_33 : decode cX7_closeGap 33 = .ok (.getfield 13, 3) := by decide +kernel
theorem dX7_closeGap_36 : decode cX7_closeGap 36 = .ok (.iload_n 2, 1) := by decide +kernel
theorem dX7_closeGap_37 : decode cX7_closeGap 37 = .ok (.iconst 1, 1) := by decide +kernel
theorem dX7_closeGap_38 : decode cX7_closeGap 38 = .ok (.iadd, 1) := by decide +kernel
theorem dX7_closeGap_39 : decode cX7_closeGap 39 = .ok (.iaload, 1) := by decide +kernel
theorem dX7_closeGap_40 : decode cX7_closeGap 40 = .ok (.iastore, 1) := by decide +kernel
theorem dX7_closeGap_41 : decode cX7_closeGap 41 = .ok (.iinc 2 1, 3) := by decide +kernel
theorem dX7_closeGap_44 : decode cX7_closeGap 44 = .ok (.goto (-28), 3) := by decide +kernel
theorem dX7_closeGap_47 : decode cX7_closeGap 47 = .ok (.aload_n 0, 1) := by decide +kernel
theorem dX7_closeGap_48 : decode cX7_closeGap 48 = .ok (.getfield 13, 3) := by decide +kernel
theorem dX7_closeGap_51 : decode cX7_closeGap 51 = .ok (.aload_n 0, 1) := by decide +kernel
theorem dX7_closeGap_52 : decode cX7_closeGap 52 = .ok (.getfield 13, 3) := by decide +kernel
theorem dX7_closeGap_55 : decode cX7_closeGap 55 = .ok (.arraylength, 1) := by decide +kernel
theorem dX7_closeGap_56 : decode cX7_closeGap 56 = .ok (.iconst 1, 1) := by decide +kernel
theorem dX7_closeGap_57 : decode cX7_closeGap 57 = .ok (.isub, 1) := by decide +kernel
theorem dX7_closeGap_58 : decode cX7_closeGap 58 = .ok (.iconst 0, 1) := by decide +kernel
theorem dX7_closeGap_59 : decode cX7_closeGap 59 = .ok (.iastore, 1) := by decide +kernel
theorem dX7_closeGap_60 : decode cX7_closeGap 60 = .ok (.return_, 1) := by decide +kernel
theorem dX7_clear_0 : decode cX7_clear 0 = .ok (.iconst 0, 1) := by decide +kernel
theorem dX7_clear_1 : decode cX7_clear 1 = .ok (.istore_n 1, 1) := by decide +kernel
theorem dX7_clear_2 : decode cX7_clear 2 = .ok (.iload_n 1, 1) := by decide +kernel
theorem dX7_clear_3 : decode cX7_clear 3 = .ok (.aload_n 0, 1) := by decide +kernel
theorem dX7_clear_4 : decode cX7_clear 4 = .ok (.getfield 13, 3) := by decide +kernel
theorem dX7_clear_7 : decode cX7_clear 7 = .ok (.arraylength, 1) := by decide +kernel
theorem dX7_clear_8 : decode cX7_clear 8 = .ok (.if_icmp .ge 16, 3) := by decide +kernel
theorem dX7_clear_11 : decode cX7_clear 11 = .ok (.aload_n 0, 1) := by decide +kernel
theorem dX7_clear_12 : decode cX7_clear 12 = .ok (.getfield 13, 3) := by decide +kernel
theorem dX7_clear_15 : decode cX7_clear 15 = .ok (.iload_n 1, 1) := by decide +kernel
theorem dX7_clear_16 : decode cX7_clear 16 = .ok (.iconst 0, 1) := by decide +kernel
theorem dX7_clear_17 : decode cX7_clear 17 = .ok (.iastore, 1) := by decide +kernel
theorem dX7_clear_18 : decode cX7_clear 18 = .ok (.iinc 1 1, 3) := by decide +kernel
theorem dX7_clear_21 : decode cX7_clear 21 = .ok (.goto (-19), 3) := by decide +kernel
theorem dX7_clear_24 : decode cX7_clear 24 = .ok (.return_, 1) := by decide +kernel
theorem dX7_copyFrom_0 : decode cX7_copyFrom 0 = .ok (.iconst 0, 1) := by decide +kernel
theorem dX7_copyFrom_1 : decode cX7_copyFrom 1 = .ok (.istore_n 2, 1) := by decide +kernel
theorem dX7_copyFrom_2 : decode cX7_copyFrom 2 = .ok (.iload_n 2, 1) := by decide +kernel
theorem dX7_copyFrom_3 : decode cX7_copyFrom 3 = .ok (.aload_n 0, 1) := by decide +kernel
theorem dX7_copyFrom_4 : decode cX7_copyFrom 4 = .ok (.getfield 13, 3) := by decide +kernel
theorem dX7_copyFrom_7 : decode cX7_copyFrom 7 = .ok (.arraylength, 1) := by decide +kernel
theorem dX7_copyFrom_8 : decode cX7_copyFrom 8 = .ok (.if_icmp .ge 30, 3) := by decide +kernel
theorem dX7_copyFrom_11 : decode cX7_copyFrom 11 = .ok (.iload_n 2, 1) := by decide +kernel
theorem dX7_copyFrom_12 : decode cX7_copyFrom 12 = .ok (.aload_n 1, 1) := by decide +kernel
theorem dX7_copyFrom_13 : decode cX7_copyFrom 13 = .ok (.getfield 13, 3) := by decide +kernel
theorem dX7_copyFrom_16 : decode cX7_copyFrom 16 = .ok (.arraylength, 1) := by decide +kernel
theorem dX7_copyFrom_17 : decode cX7_copyFrom 17 = .ok (.if_icmp .ge 21, 3) := by decide +kernel
theorem dX7_copyFrom_20 : decode cX7_copyFrom 20 = .ok (.aload_n 0, 1) := by decide +kernel
theorem dX7_copyFrom_21 : decode cX7_copyFrom 21 = .ok (.getfield 13, 3) := by decide +kernel
theorem dX7_copyFrom_24 : decode cX7_copyFrom 24 = .ok (.iload_n 2, 1) := by decide +kernel
theorem dX7_copyFrom_25 : decode cX7_copyFrom 25 = .ok (.aload_n 1, 1) := by decide +kernel
theorem dX7_copyFrom_26 : decode cX7_copyFrom 26 = .ok (.getfield 13, 3) := by decide +kernel
theorem dX7_copyFrom_29 : decode cX7_copyFrom 29 = .ok (.iload_n 2, 1) := by decide +kernel
theorem dX7_copyFrom_30 : decode cX7_copyFrom 30 = .ok (.iaload, 1) := by decide +kernel
theorem dX7_copyFrom_31 : decode cX7_copyFrom 31 = .ok (.iastore, 1) := by decide +kernel
theorem dX7_copyFrom_32 : decode cX7_copyFrom 32 = .ok (.iinc 2 1, 3) := by decide +kernel
theorem dX7_copyFrom_35 : decode cX7_copyFrom 35 = .ok (.goto (-33), 3) := by decide +kernel
theorem dX7_copyFrom_38 : decode cX7_copyFrom 38 = .ok (.return_, 1) := by decide +kernel
theorem dX8_init_0 : decode cX8_init 0 = .ok (.aload_n 0, 1) := by decide +kernel
theorem dX8_init_1 : decode cX8_init 1 = .ok (.invokespecial 3, 3) := by decide +kernel
theorem dX8_init_4 : decode cX8_init 4 = .ok (.aload_n 0, 1) := by decide +kernel
theorem dX8_init_5 : decode cX8_init 5 = .ok (.new 9, 3) := by decide +kernel
theorem dX8_init_8 : decode cX8_init 8 = .ok (.dup, 1) := by decide +kernel
theorem dX8_init_9 : decode cX8_init 9 = .ok (.bipush 6, 2) := by decide +kernel
theorem dX8_init_11 : decode cX8_init 11 = .ok (.invokespecial 11, 3) := by decide +kernel
theorem dX8_init_14 : decode cX8_init 14 = .ok (.putfield 14, 3) := by decide +kernel
theorem dX8_init_17 : decode cX8_init 17 = .ok (.aload_n 0, 1) := by decide +kernel
theorem dX8_init_18 : decode cX8_init 18 = .ok (.new 9, 3) := by decide +kernel
theorem dX8_init_21 : decode cX8_init 21 = .ok (.dup, 1) := by decide +kernel
theorem dX8_init_22 : decode cX8_init 22 = .ok (.bipush 6, 2) := by decide +kernel
theorem dX8_init_24 : decode cX8_init 24 = .ok (.invokespecial 11, 3) := by decide +kernel
theorem dX8_init_27 : decode cX8_init 27 = .ok (.putfield 20, 3) := by decide +kernel
theorem dX8_init_30 : decode cX8_init 30 = .ok (.aload_n 0, 1) := by decide +kernel
theorem dX8_init_31 : decode cX8_init 31 = .ok (.iconst 0, 1) := by decide +kernel
theorem dX8_init_32 : decode cX8_init 32 = .ok (.putfield 23, 3) := by decide +kernel
theorem dX8_init_35 : decode cX8_init 35 = .ok (.return_, 1) := by decide +kernel
theorem dX8_has_0 : decode cX8_has 0 = .ok (.iload_n 1, 1) := by decide +kernel
theorem dX8_has_1 : decode cX8_has 1 = .ok (.ifCond .lt 15, 3) := by decide +kernel
theorem dX8_has_4 : decode cX8_has 4 = .ok (.iload_n 1, 1) := by decide +kernel
theorem dX8_has_5 : decode cX8_has 5 = .ok (.aload_n 0, 1) := by decide +kernel
theorem dX8_has_6 : decode cX8_has 6 = .ok (.getfield 23, 3) := by decide +kernel
theorem dX8_has_9 : decode cX8_has 9 = .ok (.if_icmp .ge 7, 3) := by decide +kernel
theorem dX8_has_12 : decode cX8_has 12 = .ok (.iconst 1, 1) := by decide +kernel
theorem dX8_has_13 : decode cX8_has 13 = .ok (.goto 4, 3) := by decide +kernel
theorem dX8_has_16 : decode cX8_has 16 = .ok (.iconst 0, 1) := by decide +kernel
theorem dX8_has_17 : decode cX8_has 17 = .ok (.ireturn, 1) := by decide +kernel
theorem dX8_isFull_0 : decode cX8_isFull 0 = .ok (.aload_n 0, 1) := by decide +kernel
theorem dX8_isFull_1 : decode cX8_isFull 1 = .ok (.getfield 23, 3) := by decide +kernel
theorem dX8_isFull_4 : decode cX8_isFull 4 = .ok (.bipush 6, 2) := by decide +kernel
theorem dX8_isFull_6 : decode cX8_isFull 6 = .ok (.if_icmp .lt 7, 3) := by decide +kernel
theorem dX8_isFull_9 : decode cX8_isFull 9 = .ok (.iconst 1, 1) := by decide +kernel
theorem dX8_isFull_10 : decode cX8_isFull 10 = .ok (.goto 4, 3) := by decide +kernel
theorem dX8_isFull_13 : decode cX8_isFull 13 = .ok (.iconst 0, 1) := by decide +kernel
theorem dX8_isFull_14 : decode cX8_isFull 14 = .ok (.ireturn, 1) := by decide +kernel
theorem dX8_open_0 : decode cX8_open 0 = .ok (.aload_n 0, 1) := by decide +kernel
theorem dX8_open_1 : decode cX8_open 1 = .ok (.getfield 23, 3) := by decide +kernel
theorem dX8_open_4 : decode cX8_open 4 = .ok (.istore_n 3, 1) := by decide +kernel
theorem dX8_open_5 : decode cX8_open 5 = .ok (.aload_n 0, 1) := by decide +kernel
theorem dX8_open_6 : decode cX8_open 6 = .ok (.getfield 14, 3) := by decide +kernel
theorem dX8_open_9 : decode cX8_open 9 = .ok (.iload_n 3, 1) := by decide +kernel
theorem dX8_open_10 : decode cX8_open 10 = .ok (.iload_n 1, 1) := by decide +kernel
theorem dX8_open_11 : decode cX8_open 11 = .ok (.invokevirtual 27, 3) := by decide +kernel
theorem dX8_open_14 : decode cX8_open 14 = .ok (.aload_n 0, 1) := by decide +kernel
theorem dX8_open_15 : decode cX8_open 15 = .ok (.getfield 20, 3) := by decide +kernel
theorem dX8_open_18 : decode cX8_open 18 = .ok (.iload_n 3, 1) := by decide +kernel
theorem dX8_open_19 : decode cX8_open 19 = .ok (.iload_n 2, 1) := by decide +kernel
theorem dX8_open_20 : decode cX8_open 20 = .ok (.invokevirtual 27, 3) := by decide +kernel
theorem dX8_open_23 : decode cX8_open 23 = .ok (.aload_n 0, 1) := by decide +kernel
theorem dX8_open_24 : decode cX8_open 24 = .ok (.dup, 1) := by decide +kernel
theorem dX8_open_25 : decode cX8_open 25 = .ok (.getfield 23, 3) := by decide +kernel
theorem dX8_open_28 : decode cX8_open 28 = .ok (.iconst 1, 1) := by decide +kernel
theorem dX8_open_29 : decode cX8_open 29 = .ok (.iadd, 1) := by decide +kernel
theorem dX8_open_30 : decode cX8_open 30 = .ok (.putfield 23, 3) := by decide +kernel
theorem dX8_open_33 : decode cX8_open 33 = .ok (.iload_n 3, 1) := by decide +kernel
theorem dX8_open_34 : decode cX8_open 34 = .ok (.ireturn, 1) := by decide +kernel
theorem dX8_withRank_0 : decode cX8_withRank 0 = .ok (.iconst 0, 1) := by decide +kernel
theorem dX8_withRank_1 : decode cX8_withRank 1 = .ok (.istore_n 2, 1) := by decide +kernel
theorem dX8_withRank_2 : decode cX8_withRank 2 = .ok (.iload_n 2, 1) := by decide +kernel
theorem dX8_withRank_3 : decode cX8_withRank 3 = .ok (.aload_n 0, 1) := by decide +kernel
theorem dX8_withRank_4 : decode cX8_withRank 4 = .ok (.getfield 23, 3) := by decide +kernel
theorem dX8_withRank_7 : decode cX8_withRank 7 = .ok (.if_icmp .ge 20, 3) := by decide +kernel
theorem dX8_withRank_10 : decode cX8_withRank 10 = .ok (.aload_n 0, 1) := by decide +kernel
theorem dX8_withRank_11 : decode cX8_withRank 11 = .ok (.iload_n 2, 1) := by decide +kernel
theorem dX8_withRank_12 : decode cX8_withRank 12 = .ok (.invokevirtual 31, 3) := by decide +kernel
theorem dX8_withRank_15 : decode cX8_withRank 15 = .ok (.iload_n 1, 1) := by decide +kernel
theorem dX8_withRank_16 : decode cX8_withRank 16 = .ok (.if_icmp .ne 5, 3) := by decide +kernel
theorem dX8_withRank_19 : decode cX8_withRank 19 = .ok (.iload_n 2, 1) := by decide +kernel
theorem dX8_withRank_20 : decode cX8_withRank 20 = .ok (.ireturn, 1) := by decide +kernel
theorem dX8_withRank_21 : decode cX8_withRank 21 = .ok (.iinc 2 1, 3) := by decide +kernel
theorem dX8_withRank_24 : decode cX8_withRank 24 = .ok (.goto (-22), 3) := by decide +kernel
theorem dX8_withRank_27 : decode cX8_withRank 27 = .ok (.iconst (-1), 1) := by decide +kernel
theorem dX8_withRank_28 : decode cX8_withRank 28 = .ok (.ireturn, 1) := by decide +kernel
theorem dX8_rankOf_0 : decode cX8_rankOf 0 = .ok (.iconst 0, 1) := by decide +kernel
theorem dX8_rankOf_1 : decode cX8_rankOf 1 = .ok (.istore_n 2, 1) := by decide +kernel
theorem dX8_rankOf_2 : decode cX8_rankOf 2 = .ok (.iconst 0, 1) := by decide +kernel
theorem dX8_rankOf_3 : decode cX8_rankOf 3 = .ok (.istore_n 3, 1) := by decide +kernel
theorem dX8_rankOf_4 : decode cX8_rankOf 4 = .ok (.iload_n 3, 1) := by decide +kernel
theorem dX8_rankOf_5 : decode cX8_rankOf 5 = .ok (.aload_n 0, 1) := by decide +kernel
theorem dX8_rankOf_6 : decode cX8_rankOf 6 = .ok (.getfield 23, 3) := by decide +kernel
theorem dX8_rankOf_9 : decode cX8_rankOf 9 = .ok (.if_icmp .ge 46, 3) := by decide +kernel
theorem dX8_rankOf_12 : decode cX8_rankOf 12 = .ok (.aload_n 0, 1) := by decide +kernel
theorem dX8_rankOf_13 : decode cX8_rankOf 13 = .ok (.getfield 14, 3) := by decide +kernel
theorem dX8_rankOf_16 : decode cX8_rankOf 16 = .ok (.iload_n 3, 1) := by decide +kernel
theorem dX8_rankOf_17 : decode cX8_rankOf 17 = .ok (.invokevirtual 35, 3) := by decide +kernel
theorem dX8_rankOf_20 : decode cX8_rankOf 20 = .ok (.aload_n 0, 1) := by decide +kernel
theorem dX8_rankOf_21 : decode cX8_rankOf 21 = .ok (.getfield 14, 3) := by decide +kernel
theorem dX8_rankOf_24 : decode cX8_rankOf 24 = .ok (.iload_n 1, 1) := by decide +kernel
theorem dX8_rankOf_25 : decode cX8_rankOf 25 = .ok (.invokevirtual 35, 3) := by decide +kernel
theorem dX8_rankOf_28 : decode cX8_rankOf 28 = .ok (.isub, 1) := by decide +kernel
theorem dX8_rankOf_29 : decode cX8_rankOf 29 = .ok (.istore 4, 2) := by decide +kernel
theorem dX8_rankOf_31 : decode cX8_rankOf 31 = .ok (.iload 4, 2) := by decide +kernel
theorem dX8_rankOf_33 : decode cX8_rankOf 33 = .ok (.ifCond .gt 13, 3) := by decide +kernel
theorem dX8_rankOf_36 : decode cX8_rankOf 36 = .ok (.iload 4, 2) := by decide +kernel
theorem dX8_rankOf_38 : decode cX8_rankOf 38 = .ok (.ifCond .ne 11, 3) := by decide +kernel
theorem dX8_rankOf_41 : decode cX8_rankOf 41 = .ok (.iload_n 3, 1) := by decide +kernel
theorem dX8_rankOf_42 : decode cX8_rankOf 42 = .ok (.iload_n 1, 1) := by decide +kernel
theorem dX8_rankOf_43 : decode cX8_rankOf 43 = .ok (.if_icmp .ge 6, 3) := by decide +kernel
theorem dX8_rankOf_46 : decode cX8_rankOf 46 = .ok (.iinc 2 1, 3) := by decide +kernel
theorem dX8_rankOf_49 : decode cX8_rankOf 49 = .ok (.iinc 3 1, 3) := by decide +kernel
theorem dX8_rankOf_52 : decode cX8_rankOf 52 = .ok (.goto (-48), 3) := by decide +kernel
theorem dX8_rankOf_55 : decode cX8_rankOf 55 = .ok (.iload_n 2, 1) := by decide +kernel
theorem dX8_rankOf_56 : decode cX8_rankOf 56 = .ok (.ireturn, 1) := by decide +kernel
theorem dX8_copyFrom_0 : decode cX8_copyFrom 0 = .ok (.aload_n 0, 1) := by decide +kernel
theorem dX8_copyFrom_1 : decode cX8_copyFrom 1 = .ok (.getfield 14, 3) := by decide +kernel
theorem dX8_copyFrom_4 : decode cX8_copyFrom 4 = .ok (.aload_n 1, 1) := by decide +kernel
theorem dX8_copyFrom_5 : decode cX8_copyFrom 5 = .ok (.getfield 14, 3) := by decide +kernel
theorem dX8_copyFrom_8 : decode cX8_copyFrom 8 = .ok (.invokevirtual 38, 3) := by decide +kernel
theorem dX8_copyFrom_11 : decode cX8_copyFrom 11 = .ok (.aload_n 0, 1) := by decide +kernel
theorem dX8_copyFrom_12 : decode cX8_copyFrom 12 = .ok (.getfield 20, 3) := by decide +kernel
theorem dX8_copyFrom_15 : decode cX8_copyFrom 15 = .ok (.aload_n 1, 1) := by decide +kernel
theorem dX8_copyFrom_16 : decode cX8_copyFrom 16 = .ok (.getfield 20, 3) := by decide +kernel
theorem dX8_copyFrom_19 : decode cX8_copyFrom 19 = .ok (.invokevirtual 38, 3) := by decide +kernel
theorem dX8_copyFrom_22 : decode cX8_copyFrom 22 = .ok (.aload_n 0, 1) := by decide +kernel
theorem dX8_copyFrom_23 : decode cX8_copyFrom 23 = .ok (.aload_n 1, 1) := by decide +kernel
theorem dX8_copyFrom_24 : decode cX8_copyFrom 24 = .ok (.getfield 23, 3) := by decide +kernel
theorem dX8_copyFrom_27 : decode cX8_copyFrom 27 = .ok (.putfield 23, 3) := by decide +kernel
theorem dX8_copyFrom_30 : decode cX8_copyFrom 30 = .ok (.return_, 1) := by decide +kernel
theorem dX9_init_0 : decode cX9_init 0 = .ok (.aload_n 0, 1) := by decide +kernel
theorem dX9_init_1 : decode cX9_init 1 = .ok (.invokespecial 3, 3) := by decide +kernel
theorem dX9_init_4 : decode cX9_init 4 = .ok (.aload_n 0, 1) := by decide +kernel
theorem dX9_init_5 : decode cX9_init 5 = .ok (.new 9, 3) := by decide +kernel
theorem dX9_init_8 : decode cX9_init 8 = .ok (.dup, 1) := by decide +kernel
theorem dX9_init_9 : decode cX9_init 9 = .ok (.invokespecial 11, 3) := by decide +kernel
theorem dX9_init_12 : decode cX9_init 12 = .ok (.putfield 12, 3) := by decide +kernel
theorem dX9_init_15 : decode cX9_init 15 = .ok (.aload_n 0, 1) := by decide +kernel
theorem dX9_init_16 : decode cX9_init 16 = .ok (.new 18, 3) := by decide +kernel
theorem dX9_init_19 : decode cX9_init 19 = .ok (.dup, 1) := by decide +kernel
theorem dX9_init_20 : decode cX9_init 20 = .ok (.invokespecial 20, 3) := by decide +kernel
theorem dX9_init_23 : decode cX9_init 23 = .ok (.putfield 21, 3) := by decide +kernel
theorem dX9_init_26 : decode cX9_init 26 = .ok (.aload_n 0, 1) := by decide +kernel
theorem dX9_init_27 : decode cX9_init 27 = .ok (.iconst 0, 1) := by decide +kernel
theorem dX9_init_28 : decode cX9_init 28 = .ok (.putfield 25, 3) := by decide +kernel
theorem dX9_init_31 : decode cX9_init 31 = .ok (.aload_n 0, 1) := by decide +kernel
theorem dX9_init_32 : decode cX9_init 32 = .ok (.iconst 0, 1) := by decide +kernel
theorem dX9_init_33 : decode cX9_init 33 = .ok (.putfield 29, 3) := by decide +kernel
theorem dX9_init_36 : decode cX9_init 36 = .ok (.aload_n 0, 1) := by decide +kernel
theorem dX9_init_37 : decode cX9_init 37 = .ok (.iconst 0, 1) := by decide +kernel
theorem dX9_init_38 : decode cX9_init 38 = .ok (.putfield 33, 3) := by decide +kernel
theorem dX9_init_41 : decode cX9_init 41 = .ok (.aload_n 0, 1) := by decide +kernel
theorem dX9_init_42 : decode cX9_init 42 = .ok (.iconst 0, 1) := by decide +kernel
theorem dX9_init_43 : decode cX9_init 43 = .ok (.putfield 36, 3) := by decide +kernel
theorem dX9_init_46 : decode cX9_init 46 = .ok (.aload_n 0, 1) := by decide +kernel
theorem dX9_init_47 : decode cX9_init 47 = .ok (.iconst 0, 1) := by decide +kernel
theorem dX9_init_48 : decode cX9_init 48 = .ok (.putfield 39, 3) := by decide +kernel
theorem dX9_init_51 : decode cX9_init 51 = .ok (.aload_n 0, 1) := by decide +kernel
theorem dX9_init_52 : decode cX9_init 52 = .ok (.iconst 0, 1) := by decide +kernel
theorem dX9_init_53 : decode cX9_init 53 = .ok (.putfield 42, 3) := by decide +kernel
theorem dX9_init_56 : decode cX9_init 56 = .ok (.aload_n 0, 1) := by decide +kernel
theorem dX9_init_57 : decode cX9_init 57 = .ok (.lconst 0, 1) := by decide +kernel
theorem dX9_init_58 : decode cX9_init 58 = .ok (.putfield 45, 3) := by decide +kernel
theorem dX9_init_61 : decode cX9_init 61 = .ok (.return_, 1) := by decide +kernel
theorem dX9_stallFault_0 : decode cX9_stallFault 0 = .ok (.iload_n 1, 1) := by decide +kernel
theorem dX9_stallFault_1 : decode cX9_stallFault 1 = .ok (.iconst 0, 1) := by decide +kernel
theorem dX9_stallFault_2 : decode cX9_stallFault 2 = .ok (.sipush 9999, 3) := by decide +kernel
theorem dX9_stallFault_5 : decode cX9_stallFault 5 = .ok (.invokestatic 49, 3) := by decide +kernel
theorem dX9_stallFault_8 : decode cX9_stallFault 8 = .ok (.ifCond .eq 14, 3) := by decide +kernel
theorem dX9_stallFault_11 : decode cX9_stallFault 11 = .ok (.iload_n 2, 1) := by decide +kernel
theorem dX9_stallFault_12 : decode cX9_stallFault 12 = .ok (.iconst 0, 1) := by decide +kernel
theorem dX9_stallFault_13 : decode cX9_stallFault 13 = .ok (.sipush 999, 3) := by decide +kernel
theorem dX9_stallFault_16 : decode cX9_stallFault 16 = .ok (.invokestatic 49, 3) := by decide +kernel
theorem dX9_stallFault_19 : decode cX9_stallFault 19 = .ok (.ifCond .ne 7, 3) := by decide +kernel
theorem dX9_stallFault_22 : decode cX9_stallFault 22 = .ok (.getstatic 53, 3) := by decide +kernel
theorem dX9_stallFault_25 : decode cX9_stallFault 25 = .ok (.areturn, 1) := by decide +kernel
theorem dX9_stallFault_26 : decode cX9_stallFault 26 = .ok (.aload_n 0, 1) := by decide +kernel
theorem dX9_stallFault_27 : decode cX9_stallFault 27 = .ok (.getfield 12, 3) := by decide +kernel
theorem dX9_stallFault_30 : decode cX9_stallFault 30 = .ok (.invokevirtual 59, 3) := by decide +kernel
theorem dX9_stallFault_33 : decode cX9_stallFault 33 = .ok (.ifCond .eq 9, 3) := by decide +kernel
theorem dX9_stallFault_36 : decode cX9_stallFault 36 = .ok (.getstatic 63, 3) := by decide +kernel
theorem dX9_stallFault_39 : decode cX9_stallFault 39 = .ok (.goto 6, 3) := by decide +kernel
theorem dX9_stallFault_42 : decode cX9_stallFault 42 = .ok (.getstatic 66, 3) := by decide +kernel
theorem dX9_stallFault_45 : decode cX9_stallFault 45 = .ok (.areturn, 1) := by decide +kernel
theorem dX9_orderFault_0 : decode cX9_orderFault 0 = .ok (.aload_n 0, 1) := by decide +kernel
theorem dX9_orderFault_1 : decode cX9_orderFault 1 = .ok (.getfield 12, 3) := by decide +kernel
theorem dX9_orderFault_4 : decode cX9_orderFault 4 = .ok (.iload_n 2, 1) := by decide +kernel
theorem dX9_orderFault_5 : decode cX9_orderFault 5 = .ok (.invokevirtual 69, 3) := by decide +kernel
theorem dX9_orderFault_8 : decode cX9_orderFault 8 = .ok (.ifCond .ne 7, 3) := by decide +kernel
theorem dX9_orderFault_11 : decode cX9_orderFault 11 = .ok (.getstatic 73, 3) := by decide +kernel
theorem dX9_orderFault_14 : decode cX9_orderFault 14 = .ok (.areturn, 1) := by decide +kernel
theorem dX9_orderFault_15 : decode cX9_orderFault 15 = .ok (.iload_n 3, 1) := by decide +kernel
theorem dX9_orderFault_16 : decode cX9_orderFault 16 = .ok (.iconst 1, 1) := by decide +kernel
theorem dX9_orderFault_17 : decode cX9_orderFault 17 = .ok (.bipush 99, 2) := by decide +kernel
theorem dX9_orderFault_19 : decode cX9_orderFault 19 = .ok (.invokestatic 49, 3) := by decide +kernel
theorem dX9_orderFault_22 : decode cX9_orderFault 22 = .ok (.ifCond .eq 19, 3) := by decide +kernel
theorem dX9_orderFault_25 : decode cX9_orderFault 25 = .ok (.iload 4, 2) := by decide +kernel
theorem dX9_orderFault_27 : decode cX9_orderFault 27 = .ok (.iconst 1, 1) := by decide +kernel
theorem dX9_orderFault_28 : decode cX9_orderFault 28 = .ok (.bipush 50, 2) := by decide +kernel
theorem dX9_orderFault_30 : decode cX9_orderFault 30 = .ok (.invokestatic 49, 3) := by decide +kernel
theorem dX9_orderFault_33 : decode cX9_orderFault 33 = .ok (.ifCond .eq 8, 3) := by decide +kernel
theorem dX9_orderFault_36 : decode cX9_orderFault 36 = .ok (.iload 5, 2) := by decide +kernel
theorem dX9_orderFault_38 : decode cX9_orderFault 38 = .ok (.ifCond .ne 7, 3) := by decide +kernel
theorem dX9_orderFault_41 : decode cX9_orderFault 41 = .ok (.getstatic 53, 3) := by decide +kernel
theorem dX9_orderFault_44 : decode cX9_orderFault 44 = .ok (.areturn, 1) := by decide +kernel
theorem dX9_orderFault_45 : decode cX9_orderFault 45 = .ok (.iload 6, 2) := by decide +kernel
theorem dX9_orderFault_47 : decode cX9_orderFault 47 = .ok (.ifCond .eq 7, 3) := by decide +kernel
theorem dX9_orderFault_50 : decode cX9_orderFault 50 = .ok (.getstatic 63, 3) := by decide +kernel
theorem dX9_orderFault_53 : decode cX9_orderFault 53 = .ok (.areturn, 1) := by decide +kernel
theorem dX9_orderFault_54 : decode cX9_orderFault 54 = .ok (.iload_n 1, 1) := by decide +kernel
theorem dX9_orderFault_55 : decode cX9_orderFault 55 = .ok (.ifCond .eq 23, 3) := by decide +kernel
theorem dX9_orderFault_58 : decode cX9_orderFault 58 = .ok (.aload_n 0, 1) := by decide +kernel
theorem dX9_orderFault_59 : decode cX9_orderFault 59 = .ok (.iload_n 2, 1) := by decide +kernel
theorem dX9_orderFault_60 : decode cX9_orderFault 60 = .ok (.invokevirtual 76, 3) := by decide +kernel
theorem dX9_orderFault_63 : decode cX9_orderFault 63 = .ok (.iload_n 3, 1) := by decide +kernel
theorem dX9_orderFault_64 : decode cX9_orderFault 64 = .ok (.iload 4, 2) := by decide +kernel
theorem dX9_orderFault_66 : decode cX9_orderFault 66 = .ok (.imul, 1) := by decide +kernel
theorem dX9_orderFault_67 : decode cX9_orderFault 67 = .ok (.if_icmp .lt 7, 3) := by decide +kernel
theorem dX9_orderFault_70 : decode cX9_orderFault 70 = .ok (.iconst 1, 1) := by decide +kernel
theorem dX9_orderFault_71 : decode cX9_orderFault 71 = .ok (.goto 22, 3) := by decide +kernel
theorem dX9_orderFault_74 : decode cX9_orderFault 74 = .ok (.iconst 0, 1) := by decide +kernel
theorem dX9_orderFault_75 : decode cX9_orderFault 75 = .ok (.goto 18, 3) := by decide +kernel
theorem dX9_orderFault_78 : decode cX9_orderFault 78 = .ok (.aload_n 0, 1) := by decide +kernel
theorem dX9_orderFault_79 : decode cX9_orderFault 79 = .ok (.iload_n 2, 1) := by decide +kernel
theorem dX9_orderFault_80 : decode cX9_orderFault 80 = .ok (.invokevirtual 80, 3) := by decide +kernel
theorem dX9_orderFault_83 : decode cX9_orderFault 83 = .ok (.iload 4, 2) := by decide +kernel
theorem dX9_orderFault_85 : decode cX9_orderFault 85 = .ok (.if_icmp .lt 7, 3) := by decide +kernel
theorem dX9_orderFault_88 : decode cX9_orderFault 88 = .ok (.iconst 1, 1) := by decide +kernel
theorem dX9_orderFault_89 : decode cX9_orderFault 89 = .ok (.goto 4, 3) := by decide +kernel
theorem dX9_orderFault_92 : decode cX9_orderFault 92 = .ok (.iconst 0, 1) := by decide +kernel
theorem dX9_orderFault_93 : decode cX9_orderFault 93 = .ok (.istore 7, 2) := by decide +kernel
theorem dX9_orderFault_95 : decode cX9_orderFault 95 = .ok (.iload 7, 2) := by decide +kernel
theorem dX9_orderFault_97 : decode cX9_orderFault 97 = .ok (.ifCond .eq 9, 3) := by decide +kernel
theorem dX9_orderFault_100 : decode cX9_orderFault 100 = .ok (.getstatic 66, 3) := by decide +kernel
theorem dX9_orderFault_103 : decode cX9_orderFault 103 = .ok (.goto 6, 3) := by decide +kernel
theorem dX9_orderFault_106 : decode cX9_orderFault 106 = .ok (.getstatic 83, 3) := by decide +kernel
theorem dX9_orderFault_109 : decode cX9_orderFault 109 = .ok (.areturn, 1) := by decide +kernel
theorem dX9_cancelFault_0 : decode cX9_cancelFault 0 = .ok (.aload_n 0, 1) := by decide +kernel
theorem dX9_cancelFault_1 : decode cX9_cancelFault 1 = .ok (.getfield 21, 3) := by decide +kernel
theorem dX9_cancelFault_4 : decode cX9_cancelFault 4 = .ok (.iload_n 1, 1) := by decide +kernel
theorem dX9_cancelFault_5 : decode cX9_cancelFault 5 = .ok (.invokevirtual 86, 3) := by decide +kernel
theorem dX9_cancelFault_8 : decode cX9_cancelFault 8 = .ok (.iconst (-1), 1) := by decide +kernel
theorem dX9_cancelFault_9 : decode cX9_cancelFault 9 = .ok (.if_icmp .ne 9, 3) := by decide +kernel
theorem dX9_cancelFault_12 : decode cX9_cancelFault 12 = .ok (.getstatic 89, 3) := by decide +kernel
theorem dX9_cancelFault_15 : decode cX9_cancelFault 15 = .ok (.goto 6, 3) := by decide +kernel
theorem dX9_cancelFault_18 : decode cX9_cancelFault 18 = .ok (.getstatic 66, 3) := by decide +kernel
theorem dX9_cancelFault_21 : decode cX9_cancelFault 21 = .ok (.areturn, 1) := by decide +kernel
theorem dX9_passFault_0 : decode cX9_passFault 0 = .ok (.iload_n 1, 1) := by decide +kernel
theorem dX9_passFault_1 : decode cX9_passFault 1 = .ok (.iconst 1, 1) := by decide +kernel
theorem dX9_passFault_2 : decode cX9_passFault 2 = .ok (.bipush 60, 2) := by decide +kernel
theorem dX9_passFault_4 : decode cX9_passFault 4 = .ok (.invokestatic 49, 3) := by decide +kernel
theorem dX9_passFault_7 : decode cX9_passFault 7 = .ok (.ifCond .eq 9, 3) := by decide +kernel
theorem dX9_passFault_10 : decode cX9_passFault 10 = .ok (.getstatic 66, 3) := by decide +kernel
theorem dX9_passFault_13 : decode cX9_passFault 13 = .ok (.goto 6, 3) := by decide +kernel
theorem dX9_passFault_16 : decode cX9_passFault 16 = .ok (.getstatic 53, 3) := by decide +kernel
theorem dX9_passFault_19 : decode cX9_passFault 19 = .ok (.areturn, 1) := by decide +kernel
theorem dX9_openFault_0 : decode cX9_openFault 0 = .ok (.aload_n 0, 1) := by decide +kernel
theorem dX9_openFault_1 : decode cX9_openFault 1 = .ok (.getfield 25, 3) := by decide +kernel
theorem dX9_openFault_4 : decode cX9_openFault 4 = .ok (.ifCond .eq 9, 3) := by decide +kernel
theorem dX9_openFault_7 : decode cX9_openFault 7 = .ok (.getstatic 63, 3) := by decide +kernel
theorem dX9_openFault_10 : decode cX9_openFault 10 = .ok (.goto 6, 3) := by decide +kernel
theorem dX9_openFault_13 : decode cX9_openFault 13 = .ok (.getstatic 66, 3) := by decide +kernel
theorem dX9_openFault_16 : decode cX9_openFault 16 = .ok (.areturn, 1) := by decide +kernel
theorem dX9_closeFault_0 : decode cX9_closeFault 0 = .ok (.aload_n 0, 1) := by decide +kernel
theorem dX9_closeFault_1 : decode cX9_closeFault 1 = .ok (.getfield 25, 3) := by decide +kernel
theorem dX9_closeFault_4 : decode cX9_closeFault 4 = .ok (.ifCond .eq 9, 3) := by decide +kernel
theorem dX9_closeFault_7 : decode cX9_closeFault 7 = .ok (.getstatic 66, 3) := by decide +kernel
theorem dX9_closeFault_10 : decode cX9_closeFault 10 = .ok (.goto 6, 3) := by decide +kernel
theorem dX9_closeFault_13 : decode cX9_closeFault 13 = .ok (.getstatic 63, 3) := by decide +kernel
theorem dX9_closeFault_16 : decode cX9_closeFault 16 = .ok (.areturn, 1) := by decide +kernel
theorem dX9_freeMoney_0 : decode cX9_freeMoney 0 = .ok (.aload_n 0, 1) := by decide +kernel
theorem dX9_freeMoney_1 : decode cX9_freeMoney 1 = .ok (.getfield 12, 3) := by decide +kernel
theorem dX9_freeMoney_4 : decode cX9_freeMoney 4 = .ok (.getfield 92, 3) := by decide +kernel
theorem dX9_freeMoney_7 : decode cX9_freeMoney 7 = .ok (.iload_n 1, 1) := by decide +kernel
theorem dX9_freeMoney_8 : decode cX9_freeMoney 8 = .ok (.invokevirtual 96, 3) := by decide +kernel
theorem dX9_freeMoney_11 : decode cX9_freeMoney 11 = .ok (.aload_n 0, 1) := by decide +kernel
theorem dX9_freeMoney_12 : decode cX9_freeMoney 12 = .ok (.getfield 21, 3) := by decide +kernel
theorem dX9_freeMoney_15 : decode cX9_freeMoney 15 = .ok (.iload_n 1, 1) := by decide +kernel
theorem dX9_freeMoney_16 : decode cX9_freeMoney 16 = .ok (.invokevirtual 101, 3) := by decide +kernel
theorem dX9_freeMoney_19 : decode cX9_freeMoney 19 = .ok (.isub, 1) := by decide +kernel
theorem dX9_freeMoney_20 : decode cX9_freeMoney 20 = .ok (.ireturn, 1) := by decide +kernel
theorem dX9_freeDrops_0 : decode cX9_freeDrops 0 = .ok (.aload_n 0, 1) := by decide +kernel
theorem dX9_freeDrops_1 : decode cX9_freeDrops 1 = .ok (.getfield 12, 3) := by decide +kernel
theorem dX9_freeDrops_4 : decode cX9_freeDrops 4 = .ok (.getfield 104, 3) := by decide +kernel
theorem dX9_freeDrops_7 : decode cX9_freeDrops 7 = .ok (.iload_n 1, 1) := by decide +kernel
theorem dX9_freeDrops_8 : decode cX9_freeDrops 8 = .ok (.invokevirtual 96, 3) := by decide +kernel
theorem dX9_freeDrops_11 : decode cX9_freeDrops 11 = .ok (.aload_n 0, 1) := by decide +kernel
theorem dX9_freeDrops_12 : decode cX9_freeDrops 12 = .ok (.getfield 21, 3) := by decide +kernel
theorem dX9_freeDrops_15 : decode cX9_freeDrops 15 = .ok (.iload_n 1, 1) := by decide +kernel
theorem dX9_freeDrops_16 : decode cX9_freeDrops 16 = .ok (.invokevirtual 107, 3) := by decide +kernel
theorem dX9_freeDrops_19 : decode cX9_freeDrops 19 = .ok (.isub, 1) := by decide +kernel
theorem dX9_freeDrops_20 : decode cX9_freeDrops 20 = .ok (.ireturn, 1) := by decide +kernel
theorem dX9_isCovered_0 : decode cX9_isCovered 0 = .ok (.iconst 0, 1) := by decide +kernel
theorem dX9_isCovered_1 : decode cX9_isCovered 1 = .ok (.istore_n 1, 1) := by decide +kernel
theorem dX9_isCovered_2 : decode cX9_isCovered 2 = .ok (.iload_n 1, 1) := by decide +kernel
theorem dX9_isCovered_3 : decode cX9_isCovered 3 = .ok (.aload_n 0, 1) := by decide +kernel
theorem dX9_isCovered_4 : decode cX9_isCovered 4 = .ok (.getfield 12, 3) := by decide +kernel
theorem dX9_isCovered_7 : decode cX9_isCovered 7 = .ok (.getfield 110, 3) := by decide +kernel
theorem dX9_isCovered_10 : decode cX9_isCovered 10 = .ok (.if_icmp .ge 27, 3) := by decide +kernel
theorem dX9_isCovered_13 : decode cX9_isCovered 13 = .ok (.aload_n 0, 1) := by decide +kernel
theorem dX9_isCovered_14 : decode cX9_isCovered 14 = .ok (.iload_n 1, 1) := by decide +kernel
theorem dX9_isCovered_15 : decode cX9_isCovered 15 = .ok (.invokevirtual 76, 3) := by decide +kernel
theorem dX9_isCovered_18 : decode cX9_isCovered 18 = .ok (.ifCond .lt 11, 3) := by decide +kernel
theorem dX9_isCovered_21 : decode cX9_isCovered 21 = .ok (.aload_n 0, 1) := by decide +kernel
theorem dX9_isCovered_22 : decode cX9_isCovered 22 = .ok (.iload_n 1, 1) := by decide +kernel
theorem dX9_isCovered_23 : decode cX9_isCovered 23 = .ok (.invokevirtual 80, 3) := by decide +kernel
theorem dX9_isCovered_26 : decode cX9_isCovered 26 = .ok (.ifCond .ge 5, 3) := by decide +kernel
theorem dX9_isCovered_29 : decode cX9_isCovered 29 = .ok (.iconst 0, 1) := by decide +kernel
theorem dX9_isCovered_30 : decode cX9_isCovered 30 = .ok (.ireturn, 1) := by decide +kernel
theorem dX9_isCovered_31 : decode cX9_isCovered 31 = .ok (.iinc 1 1, 3) := by decide +kernel
theorem dX9_isCovered_34 : decode cX9_isCovered 34 = .ok (.goto (-32), 3) := by decide +kernel
theorem dX9_isCovered_37 : decode cX9_isCovered 37 = .ok (.iconst 1, 1) := by decide +kernel
theorem dX9_isCovered_38 : decode cX9_isCovered 38 = .ok (.ireturn, 1) := by decide +kernel
theorem dX9_place_0 : decode cX9_place 0 = .ok (.aload_n 0, 1) := by decide +kernel
theorem dX9_place_1 : decode cX9_place 1 = .ok (.getfield 33, 3) := by decide +kernel
theorem dX9_place_4 : decode cX9_place 4 = .ok (.istore 6, 2) := by decide +kernel
theorem dX9_place_6 : decode cX9_place 6 = .ok (.aload_n 0, 1) := by decide +kernel
theorem dX9_place_7 : decode cX9_place 7 = .ok (.dup, 1) := by decide +kernel
theorem dX9_place_8 : decode cX9_place 8 = .ok (.getfield 33, 3) := by decide +kernel
theorem dX9_place_11 : decode cX9_place 11 = .ok (.iconst 1, 1) := by decide +kernel
theorem dX9_place_12 : decode cX9_place 12 = .ok (.iadd, 1) := by decide +kernel
theorem dX9_place_13 : decode cX9_place 13 = .ok (.putfield 33, 3) := by decide +kernel
theorem dX9_place_16 : decode cX9_place 16 = .ok (.aload_n 0, 1) := by decide +kernel
theorem dX9_place_17 : decode cX9_place 17 = .ok (.getfield 25, 3) := by decide +kernel
theorem dX9_place_20 : decode cX9_place 20 = .ok (.ifCond .eq 8, 3) := by decide +kernel
theorem dX9_place_23 : decode cX9_place 23 = .ok (.iload 4, 2) := by decide +kernel
theorem dX9_place_25 : decode cX9_place 25 = .ok (.goto 15, 3) := by decide +kernel
theorem dX9_place_28 : decode cX9_place 28 = .ok (.iload 4, 2) := by decide +kernel
theorem dX9_place_30 : decode cX9_place 30 = .ok (.aload_n 0, 1) := by decide +kernel
theorem dX9_place_31 : decode cX9_place 31 = .ok (.iload_n 1, 1) := by decide +kernel
theorem dX9_place_32 : decode cX9_place 32 = .ok (.iload_n 2, 1) := by decide +kernel
theorem dX9_place_33 : decode cX9_place 33 = .ok (.iload_n 3, 1) := by decide +kernel
theorem dX9_place_34 : decode cX9_place 34 = .ok (.iload 4, 2) := by decide +kernel
theorem dX9_place_36 : decode cX9_place 36 = .ok (.invokevirtual 113, 3) := by decide +kernel
theorem dX9_place_39 : decode cX9_place 39 = .ok (.isub, 1) := by decide +kernel
theorem dX9_place_40 : decode cX9_place 40 = .ok (.istore 7, 2) := by decide +kernel
theorem dX9_place_42 : decode cX9_place 42 = .ok (.iload 7, 2) := by decide +kernel
theorem dX9_place_44 : decode cX9_place 44 = .ok (.ifCond .le 19, 3) := by decide +kernel
theorem dX9_place_47 : decode cX9_place 47 = .ok (.aload_n 0, 1) := by decide +kernel
theorem dX9_place_48 : decode cX9_place 48 = .ok (.getfield 21, 3) := by decide +kernel
theorem dX9_place_51 : decode cX9_place 51 = .ok (.iload 6, 2) := by decide +kernel
theorem dX9_place_53 : decode cX9_place 53 = .ok (.iload_n 2, 1) := by decide +kernel
theorem dX9_place_54 : decode cX9_place 54 = .ok (.iload_n 1, 1) := by decide +kernel
theorem dX9_place_55 : decode cX9_place 55 = .ok (.iload_n 3, 1) := by decide +kernel
theorem dX9_place_56 : decode cX9_place 56 = .ok (.iload 7, 2) := by decide +kernel
theorem dX9_place_58 : decode cX9_place 58 = .ok (.iload 5, 2) := by decide +kernel
theorem dX9_place_60 : decode cX9_place 60 = .ok (.invokevirtual 117, 3) := by decide +kernel
theorem dX9_place_63 : decode cX9_place 63 = .ok (.iload 6, 2) := by decide +kernel
theorem dX9_place_65 : decode cX9_place 65 = .ok (.ireturn, 1) := by decide +kernel
theorem dX9_take_0 : decode cX9_take 0 = .ok (.aload_n 0, 1) := by decide +kernel
theorem dX9_take_1 : decode cX9_take 1 = .ok (.dup, 1) := by decide +kernel
theorem dX9_take_2 : decode cX9_take 2 = .ok (.getfield 33, 3) := by decide +kernel
theorem dX9_take_5 : decode cX9_take 5 = .ok (.iconst 1, 1) := by decide +kernel
theorem dX9_take_6 : decode cX9_take 6 = .ok (.iadd, 1) := by decide +kernel
theorem dX9_take_7 : decode cX9_take 7 = .ok (.putfield 33, 3) := by decide +kernel
theorem dX9_take_10 : decode cX9_take 10 = .ok (.aload_n 0, 1) := by decide +kernel
theorem dX9_take_11 : decode cX9_take 11 = .ok (.iload_n 1, 1) := by decide +kernel
theorem dX9_take_12 : decode cX9_take 12 = .ok (.iload_n 2, 1) := by decide +kernel
theorem dX9_take_13 : decode cX9_take 13 = .ok (.iload_n 3, 1) := by decide +kernel
theorem dX9_take_14 : decode cX9_take 14 = .ok (.iload 4, 2) := by decide +kernel
theorem dX9_take_16 : decode cX9_take 16 = .ok (.invokevirtual 113, 3) := by decide +kernel
theorem dX9_take_19 : decode cX9_take 19 = .ok (.ireturn, 1) := by decide +kernel
theorem dX9_tradeNew_0 : decode cX9_tradeNew 0 = .ok (.iload 4, 2) := by decide +kernel
theorem dX9_tradeNew_2 : decode cX9_tradeNew 2 = .ok (.istore 5, 2) := by decide +kernel
theorem dX9_tradeNew_4 : decode cX9_tradeNew 4 = .ok (.iconst 0, 1) := by decide +kernel
theorem dX9_tradeNew_5 : decode cX9_tradeNew 5 = .ok (.istore 6, 2) := by decide +kernel
theorem dX9_tradeNew_7 : decode cX9_tradeNew 7 = .ok (.iload 6, 2) := by decide +kernel
theorem dX9_tradeNew_9 : decode cX9_tradeNew 9 = .ok (.bipush 20, 2) := by decide +kernel
theorem dX9_tradeNew_11 : decode cX9_tradeNew 11 = .ok (.if_icmp .ge 156, 3) := by decide +kernel
theorem dX9_tradeNew_14 : decode cX9_tradeNew 14 = .ok (.iload 5, 2) := by decide +kernel
theorem dX9_tradeNew_16 : decode cX9_tradeNew 16 = .ok (.ifCond .le 151, 3) := by decide +kernel
theorem dX9_tradeNew_19 : decode cX9_tradeNew 19 = .ok (.aload_n 0, 1) := by decide +kernel
theorem dX9_tradeNew_20 : decode cX9_tradeNew 20 = .ok (.getfield 21, 3) := by decide +kernel
theorem dX9_tradeNew_23 : decode cX9_tradeNew 23 = .ok (.iload_n 1, 1) := by decide +kernel
theorem dX9_tradeNew_24 : decode cX9_tradeNew 24 = .ok (.ifCond .ne 7, 3) := by decide +kernel
theorem dX9_tradeNew_27 : decode cX9_tradeNew 27 = .ok (.iconst 1, 1) := by decide +kernel
theorem dX9_tradeNew_28 : decode cX9_tradeNew 28 = .ok (.goto 4, 3) := by decide +kernel
theorem dX9_tradeNew_31 : decode cX9_tradeNew 31 = .ok (.iconst 0, 1) := by decide +kernel
theorem dX9_tradeNew_32 : decode cX9_tradeNew 32 = .ok (.invokevirtual 121, 3) := by decide +kernel
theorem dX9_tradeNew_35 : decode cX9_tradeNew 35 = .ok (.istore 7, 2) := by decide +kernel
theorem dX9_tradeNew_37 : decode cX9_tradeNew 37 = .ok (.iload 7, 2) := by decide +kernel
theorem dX9_tradeNew_39 : decode cX9_tradeNew 39 = .ok (.iconst (-1), 1) := by decide +kernel
theorem dX9_tradeNew_40 : decode cX9_tradeNew 40 = .ok (.if_icmp .ne 6, 3) := by decide +kernel
theorem dX9_tradeNew_43 : decode cX9_tradeNew 43 = .ok (.goto 124, 3) := by decide +kernel
theorem dX9_tradeNew_46 : decode cX9_tradeNew 46 = .ok (.aload_n 0, 1) := by decide +kernel
theorem dX9_tradeNew_47 : decode cX9_tradeNew 47 = .ok (.getfield 21, 3) := by decide +kernel
theorem dX9_tradeNew_50 : decode cX9_tradeNew 50 = .ok (.getfield 125, 3) := by decide +kernel
theorem dX9_tradeNew_53 : decode cX9_tradeNew 53 = .ok (.iload 7, 2) := by decide +kernel
theorem dX9_tradeNew_55 : decode cX9_tradeNew 55 = .ok (.invokevirtual 96, 3) := by decide +kernel
theorem dX9_tradeNew_58 : decode cX9_tradeNew 58 = .ok (.istore 8, 2) := by decide +kernel
theorem dX9_tradeNew_60 : decode cX9_tradeNew 60 = .ok (.iload_n 1, 1) := by decide +kernel
theorem dX9_tradeNew_61 : decode cX9_tradeNew 61 = .ok (.ifCond .eq 12, 3) := by decide +kernel
theorem dX9_tradeNew_64 : decode cX9_tradeNew 64 = .ok (.iload 8, 2) := by decide +kernel
theorem dX9_tradeNew_66 : decode cX9_tradeNew 66 = .ok (.iload_n 3, 1) := by decide +kernel
theorem dX9_tradeNew_67 : decode cX9_tradeNew 67 = .ok (.if_icmp .le 15, 3) := by decide +kernel
theorem dX9_tradeNew_70 : decode cX9_tradeNew 70 = .ok (.goto 97, 3) := by decide +kernel
theorem dX9_tradeNew_73 : decode cX9_tradeNew 73 = .ok (.iload 8, 2) := by decide +kernel
theorem dX9_tradeNew_75 : decode cX9_tradeNew 75 = .ok (.iload_n 3, 1) := by decide +kernel
theorem dX9_tradeNew_76 : decode cX9_tradeNew 76 = .ok (.if_icmp .ge 6, 3) := by decide +kernel
theorem dX9_tradeNew_79 : decode cX9_tradeNew 79 = .ok (.goto 88, 3) := by decide +kernel
theorem dX9_tradeNew_82 : decode cX9_tradeNew 82 = .ok (.iload 5, 2) := by decide +kernel
theorem dX9_tradeNew_84 : decode cX9_tradeNew 84 = .ok (.aload_n 0, 1) := by decide +kernel
theorem dX9_tradeNew_85 : decode cX9_tradeNew 85 = .ok (.getfield 21, 3) := by decide +kernel
theorem dX9_tradeNew_88 : decode cX9_tradeNew 88 = .ok (.getfield 128, 3) := by decide +kernel
theorem dX9_tradeNew_91 : decode cX9_tradeNew 91 = .ok (.iload 7, 2) := by decide +kernel
theorem dX9_tradeNew_93 : decode cX9_tradeNew 93 = .ok (.invokevirtual 96, 3) := by decide +kernel
theorem dX9_tradeNew_96 : decode cX9_tradeNew 96 = .ok (.invokestatic 131, 3) := by decide +kernel
theorem dX9_tradeNew_99 : decode cX9_tradeNew 99 = .ok (.istore 9, 2) := by decide +kernel
theorem dX9_tradeNew_101 : decode cX9_tradeNew 101 = .ok (.aload_n 0, 1) := by decide +kernel
theorem dX9_tradeNew_102 : decode cX9_tradeNew 102 = .ok (.getfield 21, 3) := by decide +kernel
theorem dX9_tradeNew_105 : decode cX9_tradeNew 105 = .ok (.getfield 137, 3) := by decide +kernel
theorem dX9_tradeNew_108 : decode cX9_tradeNew 108 = .ok (.iload 7, 2) := by decide +kernel
theorem dX9_tradeNew_110 : decode cX9_tradeNew 110 = .ok (.invokevirtual 96, 3) := by decide +kernel
theorem dX9_tradeNew_113 : decode cX9_tradeNew 113 = .ok (.istore 10, 2) := by decide +kernel
theorem dX9_tradeNew_115 : decode cX9_tradeNew 115 = .ok (.aload_n 0, 1) := by decide +kernel
theorem dX9_tradeNew_116 : decode cX9_tradeNew 116 = .ok (.iload_n 1, 1) := by decide +kernel
theorem dX9_tradeNew_117 : decode cX9_tradeNew 117 = .ok (.ifCond .eq 7, 3) := by decide +kernel
theorem dX9_tradeNew_120 : decode cX9_tradeNew 120 = .ok (.iload_n 2, 1) := by decide +kernel
theorem dX9_tradeNew_121 : decode cX9_tradeNew 121 = .ok (.goto 5, 3) := by decide +kernel
theorem dX9_tradeNew_124 : decode cX9_tradeNew 124 = .ok (.iload 10, 2) := by decide +kernel
theorem dX9_tradeNew_126 : decode cX9_tradeNew 126 = .ok (.iload_n 1, 1) := by decide +kernel
theorem dX9_tradeNew_127 : decode cX9_tradeNew 127 = .ok (.ifCond .eq 8, 3) := by decide +kernel
theorem dX9_tradeNew_130 : decode cX9_tradeNew 130 = .ok (.iload 10, 2) := by decide +kernel
theorem dX9_tradeNew_132 : decode cX9_tradeNew 132 = .ok (.goto 4, 3) := by decide +kernel
theorem dX9_tradeNew_135 : decode cX9_tradeNew 135 = .ok (.iload_n 2, 1) := by decide +kernel
theorem dX9_tradeNew_136 : decode cX9_tradeNew 136 = .ok (.iload 8, 2) := by decide +kernel
theorem dX9_tradeNew_138 : decode cX9_tradeNew 138 = .ok (.iload 9, 2) := by decide +kernel
theorem dX9_tradeNew_140 : decode cX9_tradeNew 140 = .ok (.invokevirtual 139, 3) := by decide +kernel
theorem dX9_tradeNew_143 : decode cX9_tradeNew 143 = .ok (.aload_n 0, 1) := by decide +kernel
theorem dX9_tradeNew_144 : decode cX9_tradeNew 144 = .ok (.getfield 21, 3) := by decide +kernel
theorem dX9_tradeNew_147 : decode cX9_tradeNew 147 = .ok (.iload 7, 2) := by decide +kernel
theorem dX9_tradeNew_149 : decode cX9_tradeNew 149 = .ok (.iload 9, 2) := by decide +kernel
theorem dX9_tradeNew_151 : decode cX9_tradeNew 151 = .ok (.invokevirtual 143, 3) := by decide +kernel
theorem dX9_tradeNew_154 : decode cX9_tradeNew 154 = .ok (.iload 5, 2) := by decide +kernel
theorem dX9_tradeNew_156 : decode cX9_tradeNew 156 = .ok (.iload 9, 2) := by decide +kernel
theorem dX9_tradeNew_158 : decode cX9_tradeNew 158 = .ok (.isub, 1) := by decide +kernel
theorem dX9_tradeNew_159 : decode cX9_tradeNew 159 = .ok (.istore 5, 2) := by decide +kernel
theorem dX9_tradeNew_161 : decode cX9_tradeNew 161 = .ok (.iinc 6 1, 3) := by decide +kernel
theorem dX9_tradeNew_164 : decode cX9_tradeNew 164 = .ok (.goto (-157), 3) := by decide +kernel
theorem dX9_tradeNew_167 : decode cX9_tradeNew 167 = .ok (.iload 4, 2) := by decide +kernel
theorem dX9_tradeNew_169 : decode cX9_tradeNew 169 = .ok (.iload 5, 2) := by decide +kernel
theorem dX9_tradeNew_171 : decode cX9_tradeNew 171 = .ok (.isub, 1) := by decide +kernel
theorem dX9_tradeNew_172 : decode cX9_tradeNew 172 = .ok (.ireturn, 1) := by decide +kernel
theorem dX9_trade_0 : decode cX9_trade 0 = .ok (.iload_n 3, 1) := by decide +kernel
theorem dX9_trade_1 : decode cX9_trade 1 = .ok (.iload 4, 2) := by decide +kernel
theorem dX9_trade_3 : decode cX9_trade 3 = .ok (.imul, 1) := by decide +kernel
theorem dX9_trade_4 : decode cX9_trade 4 = .ok (.istore 5, 2) := by decide +kernel
theorem dX9_trade_6 : decode cX9_trade 6 = .ok (.aload_n 0, 1) := by decide +kernel
theorem dX9_trade_7 : decode cX9_trade 7 = .ok (.getfield 12, 3) := by decide +kernel
theorem dX9_trade_10 : decode cX9_trade 10 = .ok (.getfield 92, 3) := by decide +kernel
theorem dX9_trade_13 : decode cX9_trade 13 = .ok (.iload_n 1, 1) := by decide +kernel
theorem dX9_trade_14 : decode cX9_trade 14 = .ok (.iload 5, 2) := by decide +kernel
theorem dX9_trade_16 : decode cX9_trade 16 = .ok (.ineg, 1) := by decide +kernel
theorem dX9_trade_17 : decode cX9_trade 17 = .ok (.invokevirtual 147, 3) := by decide +kernel
theorem dX9_trade_20 : decode cX9_trade 20 = .ok (.aload_n 0, 1) := by decide +kernel
theorem dX9_trade_21 : decode cX9_trade 21 = .ok (.getfield 12, 3) := by decide +kernel
theorem dX9_trade_24 : decode cX9_trade 24 = .ok (.getfield 92, 3) := by decide +kernel
theorem dX9_trade_27 : decode cX9_trade 27 = .ok (.iload_n 2, 1) := by decide +kernel
theorem dX9_trade_28 : decode cX9_trade 28 = .ok (.iload 5, 2) := by decide +kernel
theorem dX9_trade_30 : decode cX9_trade 30 = .ok (.invokevirtual 147, 3) := by decide +kernel
theorem dX9_trade_33 : decode cX9_trade 33 = .ok (.aload_n 0, 1) := by decide +kernel
theorem dX9_trade_34 : decode cX9_trade 34 = .ok (.getfield 12, 3) := by decide +kernel
theorem dX9_trade_37 : decode cX9_trade 37 = .ok (.getfield 104, 3) := by decide +kernel
theorem dX9_trade_40 : decode cX9_trade 40 = .ok (.iload_n 2, 1) := by decide +kernel
theorem dX9_trade_41 : decode cX9_trade 41 = .ok (.iload 4, 2) := by decide +kernel
theorem dX9_trade_43 : decode cX9_trade 43 = .ok (.ineg, 1) := by decide +kernel
theorem dX9_trade_44 : decode cX9_trade 44 = .ok (.invokevirtual 147, 3) := by decide +kernel
theorem dX9_trade_47 : decode cX9_trade 47 = .ok (.aload_n 0, 1) := by decide +kernel
theorem dX9_trade_48 : decode cX9_trade 48 = .ok (.getfield 12, 3) := by decide +kernel
theorem dX9_trade_51 : decode cX9_trade 51 = .ok (.getfield 104, 3) := by decide +kernel
theorem dX9_trade_54 : decode cX9_trade 54 = .ok (.iload_n 1, 1) := by decide +kernel
theorem dX9_trade_55 : decode cX9_trade 55 = .ok (.iload 4, 2) := by decide +kernel
theorem dX9_trade_57 : decode cX9_trade 57 = .ok (.invokevirtual 147, 3) := by decide +kernel
theorem dX9_trade_60 : decode cX9_trade 60 = .ok (.aload_n 0, 1) := by decide +kernel
theorem dX9_trade_61 : decode cX9_trade 61 = .ok (.iload_n 3, 1) := by decide +kernel
theorem dX9_trade_62 : decode cX9_trade 62 = .ok (.putfield 36, 3) := by decide +kernel
theorem dX9_trade_65 : decode cX9_trade 65 = .ok (.aload_n 0, 1) := by decide +kernel
theorem dX9_trade_66 : decode cX9_trade 66 = .ok (.dup, 1) := by decide +kernel
theorem dX9_trade_67 : decode cX9_trade 67 = .ok (.getfield 39, 3) := by decide +kernel
theorem dX9_trade_70 : decode cX9_trade 70 = .ok (.iconst 1, 1) := by decide +kernel
theorem dX9_trade_71 : decode cX9_trade 71 = .ok (.iadd, 1) := by decide +kernel
theorem dX9_trade_72 : decode cX9_trade 72 = .ok (.putfield 39, 3) := by decide +kernel
theorem dX9_trade_75 : decode cX9_trade 75 = .ok (.aload_n 0, 1) := by decide +kernel
theorem dX9_trade_76 : decode cX9_trade 76 = .ok (.dup, 1) := by decide +kernel
theorem dX9_trade_77 : decode cX9_trade 77 = .ok (.getfield 42, 3) := by decide +kernel
theorem dX9_trade_80 : decode cX9_trade 80 = .ok (.iload 4, 2) := by decide +kernel
theorem dX9_trade_82 : decode cX9_trade 82 = .ok (.iadd, 1) := by decide +kernel
theorem dX9_trade_83 : decode cX9_trade 83 = .ok (.putfield 42, 3) := by decide +kernel
theorem dX9_trade_86 : decode cX9_trade 86 = .ok (.aload_n 0, 1) := by decide +kernel
theorem dX9_trade_87 : decode cX9_trade 87 = .ok (.dup, 1) := by decide +kernel
theorem dX9_trade_88 : decode cX9_trade 88 = .ok (.getfield 45, 3) := by decide +kernel
theorem dX9_trade_91 : decode cX9_trade 91 = .ok (.iload 5, 2) := by decide +kernel
theorem dX9_trade_93 : decode cX9_trade 93 = .ok (.i2l, 1) := by decide +kernel
theorem dX9_trade_94 : decode cX9_trade 94 = .ok (.ladd, 1) := by decide +kernel
theorem dX9_trade_95 : decode cX9_trade 95 = .ok (.putfield 45, 3) := by decide +kernel
theorem dX9_trade_98 : decode cX9_trade 98 = .ok (.return_, 1) := by decide +kernel
theorem dX9_withdraw_0 : decode cX9_withdraw 0 = .ok (.aload_n 0, 1) := by decide +kernel
theorem dX9_withdraw_1 : decode cX9_withdraw 1 = .ok (.getfield 21, 3) := by decide +kernel
theorem dX9_withdraw_4 : decode cX9_withdraw 4 = .ok (.iload_n 1, 1) := by decide +kernel
theorem dX9_withdraw_5 : decode cX9_withdraw 5 = .ok (.invokevirtual 86, 3) := by decide +kernel
theorem dX9_withdraw_8 : decode cX9_withdraw 8 = .ok (.istore_n 2, 1) := by decide +kernel
theorem dX9_withdraw_9 : decode cX9_withdraw 9 = .ok (.aload_n 0, 1) := by decide +kernel
theorem dX9_withdraw_10 : decode cX9_withdraw 10 = .ok (.getfield 21, 3) := by decide +kernel
theorem dX9_withdraw_13 : decode cX9_withdraw 13 = .ok (.getfield 128, 3) := by decide +kernel
theorem dX9_withdraw_16 : decode cX9_withdraw 16 = .ok (.iload_n 2, 1) := by decide +kernel
theorem dX9_withdraw_17 : decode cX9_withdraw 17 = .ok (.invokevirtual 96, 3) := by decide +kernel
theorem dX9_withdraw_20 : decode cX9_withdraw 20 = .ok (.istore_n 3, 1) := by decide +kernel
theorem dX9_withdraw_21 : decode cX9_withdraw 21 = .ok (.aload_n 0, 1) := by decide +kernel
theorem dX9_withdraw_22 : decode cX9_withdraw 22 = .ok (.getfield 21, 3) := by decide +kernel
theorem dX9_withdraw_25 : decode cX9_withdraw 25 = .ok (.iload_n 2, 1) := by decide +kernel
theorem dX9_withdraw_26 : decode cX9_withdraw 26 = .ok (.invokevirtual 150, 3) := by decide +kernel
theorem dX9_withdraw_29 : decode cX9_withdraw 29 = .ok (.iload_n 3, 1) := by decide +kernel
theorem dX9_withdraw_30 : decode cX9_withdraw 30 = .ok (.ireturn, 1) := by decide +kernel
theorem dX9_letPass_0 : decode cX9_letPass 0 = .ok (.iconst 0, 1) := by decide +kernel
theorem dX9_letPass_1 : decode cX9_letPass 1 = .ok (.istore_n 2, 1) := by decide +kernel
theorem dX9_letPass_2 : decode cX9_letPass 2 = .ok (.aload_n 0, 1) := by decide +kernel
theorem dX9_letPass_3 : decode cX9_letPass 3 = .ok (.dup, 1) := by decide +kernel
theorem dX9_letPass_4 : decode cX9_letPass 4 = .ok (.getfield 29, 3) := by decide +kernel
theorem dX9_letPass_7 : decode cX9_letPass 7 = .ok (.iload_n 1, 1) := by decide +kernel
theorem dX9_letPass_8 : decode cX9_letPass 8 = .ok (.iadd, 1) := by decide +kernel
theorem dX9_letPass_9 : decode cX9_letPass 9 = .ok (.putfield 29, 3) := by decide +kernel
theorem dX9_letPass_12 : decode cX9_letPass 12 = .ok (.aload_n 0, 1) := by decide +kernel
theorem dX9_letPass_13 : decode cX9_letPass 13 = .ok (.getfield 21, 3) := by decide +kernel
theorem dX9_letPass_16 : decode cX9_letPass 16 = .ok (.getfield 154, 3) := by decide +kernel
theorem dX9_letPass_19 : decode cX9_letPass 19 = .ok (.iconst 1, 1) := by decide +kernel
theorem dX9_letPass_20 : decode cX9_letPass 20 = .ok (.isub, 1) := by decide +kernel
theorem dX9_letPass_21 : decode cX9_letPass 21 = .ok (.istore_n 3, 1) := by decide +kernel
theorem dX9_letPass_22 : decode cX9_letPass 22 = .ok (.iload_n 3, 1) := by decide +kernel
theorem dX9_letPass_23 : decode cX9_letPass 23 = .ok (.ifCond .lt 62, 3) := by decide +kernel
theorem dX9_letPass_26 : decode cX9_letPass 26 = .ok (.aload_n 0, 1) := by decide +kernel
theorem dX9_letPass_27 : decode cX9_letPass 27 = .ok (.getfield 21, 3) := by decide +kernel
theorem dX9_letPass_30 : decode cX9_letPass 30 = .ok (.getfield 155, 3) := by decide +kernel
theorem dX9_letPass_33 : decode cX9_letPass 33 = .ok (.iload_n 3, 1) := by decide +kernel
theorem dX9_letPass_34 : decode cX9_letPass 34 = .ok (.invokevirtual 96, 3) := by decide +kernel
theorem dX9_letPass_37 : decode cX9_letPass 37 = .ok (.istore 4, 2) := by decide +kernel
theorem dX9_letPass_39 : decode cX9_letPass 39 = .ok (.iload 4, 2) := by decide +kernel
theorem dX9_letPass_41 : decode cX9_letPass 41 = .ok (.iload_n 1, 1) := by decide +kernel
theorem dX9_letPass_42 : decode cX9_letPass 42 = .ok (.if_icmp .le 21, 3) := by decide +kernel
theorem dX9_letPass_45 : decode cX9_letPass 45 = .ok (.aload_n 0, 1) := by decide +kernel
theorem dX9_letPass_46 : decode cX9_letPass 46 = .ok (.getfield 21, 3) := by decide +kernel
theorem dX9_letPass_49 : decode cX9_letPass 49 = .ok (.getfield 155, 3) := by decide +kernel
theorem dX9_letPass_52 : decode cX9_letPass 52 = .ok (.iload_n 3, 1) := by decide +kernel
theorem dX9_letPass_53 : decode cX9_letPass 53 = .ok (.iload 4, 2) := by decide +kernel
theorem dX9_letPass_55 : decode cX9_letPass 55 = .ok (.iload_n 1, 1) := by decide +kernel
theorem dX9_letPass_56 : decode cX9_letPass 56 = .ok (.isub, 1) := by decide +kernel
theorem dX9_letPass_57 : decode cX9_letPass 57 = .ok (.invokevirtual 158, 3) := by decide +kernel
theorem dX9_letPass_60 : decode cX9_letPass 60 = .ok (.goto 19, 3) := by decide +kernel
theorem dX9_letPass_63 : decode cX9_letPass 63 = .ok (.iload 4, 2) := by decide +kernel
theorem dX9_letPass_65 : decode cX9_letPass 65 = .ok (.ifCond .eq 14, 3) := by decide +kernel
theorem dX9_letPass_68 : decode cX9_letPass 68 = .ok (.aload_n 0, 1) := by decide +kernel
theorem dX9_letPass_69 : decode cX9_letPass 69 = .ok (.getfield 21, 3) := by decide +kernel
theorem dX9_letPass_72 : decode cX9_letPass 72 = .ok (.iload_n 3, 1) := by decide +kernel
theorem dX9_letPass_73 : decode cX9_letPass 73 = .ok (.invokevirtual 150, 3) := by decide +kernel
theorem dX9_letPass_76 : decode cX9_letPass 76 = .ok (.iinc 2 1, 3) := by decide +kernel
theorem dX9_letPass_79 : decode cX9_letPass 79 = .ok (.iinc 3 (-1), 3) := by decide +kernel
theorem dX9_letPass_82 : decode cX9_letPass 82 = .ok (.goto (-60), 3) := by decide +kernel
theorem dX9_letPass_85 : decode cX9_letPass 85 = .ok (.iload_n 2, 1) := by decide +kernel
theorem dX9_letPass_86 : decode cX9_letPass 86 = .ok (.ireturn, 1) := by decide +kernel
theorem dX9_startPool_0 : decode cX9_startPool 0 = .ok (.aload_n 0, 1) := by decide +kernel
theorem dX9_startPool_1 : decode cX9_startPool 1 = .ok (.iconst 1, 1) := by decide +kernel
theorem dX9_startPool_2 : decode cX9_startPool 2 = .ok (.putfield 25, 3) := by decide +kernel
theorem dX9_startPool_5 : decode cX9_startPool 5 = .ok (.aload_n 0, 1) := by decide +kernel
theorem dX9_startPool_6 : decode cX9_startPool 6 = .ok (.getfield 21, 3) := by decide +kernel
theorem dX9_startPool_9 : decode cX9_startPool 9 = .ok (.getfield 154, 3) := by decide +kernel
theorem dX9_startPool_12 : decode cX9_startPool 12 = .ok (.ireturn, 1) := by decide +kernel
theorem dX9_endPool_0 : decode cX9_endPool 0 = .ok (.aload_n 0, 1) := by decide +kernel
theorem dX9_endPool_1 : decode cX9_endPool 1 = .ok (.getfield 21, 3) := by decide +kernel
theorem dX9_endPool_4 : decode cX9_endPool 4 = .ok (.invokevirtual 161, 3) := by decide +kernel
theorem dX9_endPool_7 : decode cX9_endPool 7 = .ok (.astore_n 1, 1) := by decide +kernel
theorem dX9_endPool_8 : decode cX9_endPool 8 = .ok (.aload_n 0, 1) := by decide +kernel
theorem dX9_endPool_9 : decode cX9_endPool 9 = .ok (.aload_n 1, 1) := by decide +kernel
theorem dX9_endPool_10 : decode cX9_endPool 10 = .ok (.getfield 165, 3) := by decide +kernel
theorem dX9_endPool_13 : decode cX9_endPool 13 = .ok (.aload_n 1, 1) := by decide +kernel
theorem dX9_endPool_14 : decode cX9_endPool 14 = .ok (.getfield 170, 3) := by decide +kernel
theorem dX9_endPool_17 : decode cX9_endPool 17 = .ok (.invokevirtual 173, 3) := by decide +kernel
theorem dX9_endPool_20 : decode cX9_endPool 20 = .ok (.aload_n 0, 1) := by decide +kernel
theorem dX9_endPool_21 : decode cX9_endPool 21 = .ok (.getfield 21, 3) := by decide +kernel
theorem dX9_endPool_24 : decode cX9_endPool 24 = .ok (.invokevirtual 176, 3) := by decide +kernel
theorem dX9_endPool_27 : decode cX9_endPool 27 = .ok (.aload_n 0, 1) := by decide +kernel
theorem dX9_endPool_28 : decode cX9_endPool 28 = .ok (.iconst 0, 1) := by decide +kernel
theorem dX9_endPool_29 : decode cX9_endPool 29 = .ok (.putfield 25, 3) := by decide +kernel
theorem dX9_endPool_32 : decode cX9_endPool 32 = .ok (.aload_n 1, 1) := by decide +kernel
theorem dX9_endPool_33 : decode cX9_endPool 33 = .ok (.getfield 170, 3) := by decide +kernel
theorem dX9_endPool_36 : decode cX9_endPool 36 = .ok (.ireturn, 1) := by decide +kernel
theorem dX9_tradePool_0 : decode cX9_tradePool 0 = .ok (.iload_n 2, 1) := by decide +kernel
theorem dX9_tradePool_1 : decode cX9_tradePool 1 = .ok (.istore_n 3, 1) := by decide +kernel
theorem dX9_tradePool_2 : decode cX9_tradePool 2 = .ok (.iconst 0, 1) := by decide +kernel
theorem dX9_tradePool_3 : decode cX9_tradePool 3 = .ok (.istore 4, 2) := by decide +kernel
theorem dX9_tradePool_5 : decode cX9_tradePool 5 = .ok (.iload 4, 2) := by decide +kernel
theorem dX9_tradePool_7 : decode cX9_tradePool 7 = .ok (.bipush 20, 2) := by decide +kernel
theorem dX9_tradePool_9 : decode cX9_tradePool 9 = .ok (.if_icmp .ge 153, 3) := by decide +kernel
theorem dX9_tradePool_12 : decode cX9_tradePool 12 = .ok (.iload_n 3, 1) := by decide +kernel
theorem dX9_tradePool_13 : decode cX9_tradePool 13 = .ok (.ifCond .le 149, 3) := by decide +kernel
theorem dX9_tradePool_16 : decode cX9_tradePool 16 = .ok (.aload_n 0, 1) := by decide +kernel
theorem dX9_tradePool_17 : decode cX9_tradePool 17 = .ok (.getfield 21, 3) := by decide +kernel
theorem dX9_tradePool_20 : decode cX9_tradePool 20 = .ok (.iconst 1, 1) := by decide +kernel
theorem dX9_tradePool_21 : decode cX9_tradePool 21 = .ok (.invokevirtual 121, 3) := by decide +kernel
theorem dX9_tradePool_24 : decode cX9_tradePool 24 = .ok (.istore 5, 2) := by decide +kernel
theorem dX9_tradePool_26 : decode cX9_tradePool 26 = .ok (.aload_n 0, 1) := by decide +kernel
theorem dX9_tradePool_27 : decode cX9_tradePool 27 = .ok (.getfield 21, 3) := by decide +kernel
theorem dX9_tradePool_30 : decode cX9_tradePool 30 = .ok (.iconst 0, 1) := by decide +kernel
theorem dX9_tradePool_31 : decode cX9_tradePool 31 = .ok (.invokevirtual 121, 3) := by decide +kernel
theorem dX9_tradePool_34 : decode cX9_tradePool 34 = .ok (.istore 6, 2) := by decide +kernel
theorem dX9_tradePool_36 : decode cX9_tradePool 36 = .ok (.iload 5, 2) := by decide +kernel
theorem dX9_tradePool_38 : decode cX9_tradePool 38 = .ok (.iconst (-1), 1) := by decide +kernel
theorem dX9_tradePool_39 : decode cX9_tradePool 39 = .ok (.if_icmp .eq 123, 3) := by decide +kernel
theorem dX9_tradePool_42 : decode cX9_tradePool 42 = .ok (.iload 6, 2) := by decide +kernel
theorem dX9_tradePool_44 : decode cX9_tradePool 44 = .ok (.iconst (-1), 1) := by decide +kernel
theorem dX9_tradePool_45 : decode cX9_tradePool 45 = .ok (.if_icmp .ne 6, 3) := by decide +kernel
theorem dX9_tradePool_48 : decode cX9_tradePool 48 = .ok (.goto 114, 3) := by decide +kernel
theorem dX9_tradePool_51 : decode cX9_tradePool 51 = .ok (.aload_n 0, 1) := by decide +kernel
theorem dX9_tradePool_52 : decode cX9_tradePool 52 = .ok (.getfield 21, 3) := by decide +kernel
theorem dX9_tradePool_55 : decode cX9_tradePool 55 = .ok (.getfield 128, 3) := by decide +kernel
theorem dX9_tradePool_58 : decode cX9_tradePool 58 = .ok (.iload 5, 2) := by decide +kernel
theorem dX9_tradePool_60 : decode cX9_tradePool 60 = .ok (.invokevirtual 96, 3) := by decide +kernel
theorem dX9_tradePool_63 : decode cX9_tradePool 63 = .ok (.aload_n 0, 1) := by decide +kernel
theorem dX9_tradePool_64 : decode cX9_tradePool 64 = .ok (.getfield 21, 3) := by decide +kernel
theorem dX9_tradePool_67 : decode cX9_tradePool 67 = .ok (.getfield 128, 3) := by decide +kernel
theorem dX9_tradePool_70 : decode cX9_tradePool 70 = .ok (.iload 6, 2) := by decide +kernel
theorem dX9_tradePool_72 : decode cX9_tradePool 72 = .ok (.invokevirtual 96, 3) := by decide +kernel
theorem dX9_tradePool_75 : decode cX9_tradePool 75 = .ok (.invokestatic 131, 3) := by decide +kernel
theorem dX9_tradePool_78 : decode cX9_tradePool 78 = .ok (.istore 7, 2) := by decide +kernel
theorem dX9_tradePool_80 : decode cX9_tradePool 80 = .ok (.iload 7, 2) := by decide +kernel
theorem dX9_tradePool_82 : decode cX9_tradePool 82 = .ok (.iload_n 3, 1) := by decide +kernel
theorem dX9_tradePool_83 : decode cX9_tradePool 83 = .ok (.invokestatic 131, 3) := by decide +kernel
theorem dX9_tradePool_86 : decode cX9_tradePool 86 = .ok (.istore 8, 2) := by decide +kernel
theorem dX9_tradePool_88 : decode cX9_tradePool 88 = .ok (.aload_n 0, 1) := by decide +kernel
theorem dX9_tradePool_89 : decode cX9_tradePool 89 = .ok (.aload_n 0, 1) := by decide +kernel
theorem dX9_tradePool_90 : decode cX9_tradePool 90 = .ok (.getfield 21, 3) := by decide +kernel
theorem dX9_tradePool_93 : decode cX9_tradePool 93 = .ok (.getfield 137, 3) := by decide +kernel
theorem dX9_tradePool_96 : decode cX9_tradePool 96 = .ok (.iload 5, 2) := by decide +kernel
theorem dX9_tradePool_98 : decode cX9_tradePool 98 = .ok (.invokevirtual 96, 3) := by decide +kernel
theorem dX9_tradePool_101 : decode cX9_tradePool 101 = .ok (.aload_n 0, 1) := by decide +kernel
theorem dX9_tradePool_102 : decode cX9_tradePool 102 = .ok (.getfield 21, 3) := by decide +kernel
theorem dX9_tradePool_105 : decode cX9_tradePool 105 = .ok (.getfield 137, 3) := by decide +kernel
theorem dX9_tradePool_108 : decode cX9_tradePool 108 = .ok (.iload 6, 2) := by decide +kernel
theorem dX9_tradePool_110 : decode cX9_tradePool 110 = .ok (.invokevirtual 96, 3) := by decide +kernel
theorem dX9_tradePool_113 : decode cX9_tradePool 113 = .ok (.iload_n 1, 1) := by decide +kernel
theorem dX9_tradePool_114 : decode cX9_tradePool 114 = .ok (.iload 8, 2) := by decide +kernel
theorem dX9_tradePool_116 : decode cX9_tradePool 116 = .ok (.invokevirtual 139, 3) := by decide +kernel
theorem dX9_tradePool_119 : decode cX9_tradePool 119 = .ok (.aload_n 0, 1) := by decide +kernel
theorem dX9_tradePool_120 : decode cX9_tradePool 120 = .ok (.getfield 21, 3) := by decide +kernel
theorem dX9_tradePool_123 : decode cX9_tradePool 123 = .ok (.iload 5, 2) := by decide +kernel
theorem dX9_tradePool_125 : decode cX9_tradePool 125 = .ok (.iload 6, 2) := by decide +kernel
theorem dX9_tradePool_127 : decode cX9_tradePool 127 = .ok (.invokestatic 179, 3) := by decide +kernel
theorem dX9_tradePool_130 : decode cX9_tradePool 130 = .ok (.iload 8, 2) := by decide +kernel
theorem dX9_tradePool_132 : decode cX9_tradePool 132 = .ok (.invokevirtual 143, 3) := by decide +kernel
theorem dX9_tradePool_135 : decode cX9_tradePool 135 = .ok (.aload_n 0, 1) := by decide +kernel
theorem dX9_tradePool_136 : decode cX9_tradePool 136 = .ok (.getfield 21, 3) := by decide +kernel
theorem dX9_tradePool_139 : decode cX9_tradePool 139 = .ok (.iload 5, 2) := by decide +kernel
theorem dX9_tradePool_141 : decode cX9_tradePool 141 = .ok (.iload 6, 2) := by decide +kernel
theorem dX9_tradePool_143 : decode cX9_tradePool 143 = .ok (.invokestatic 131, 3) := by decide +kernel
theorem dX9_tradePool_146 : decode cX9_tradePool 146 = .ok (.iload 8, 2) := by decide +kernel
theorem dX9_tradePool_148 : decode cX9_tradePool 148 = .ok (.invokevirtual 143, 3) := by decide +kernel
theorem dX9_tradePool_151 : decode cX9_tradePool 151 = .ok (.iload_n 3, 1) := by decide +kernel
theorem dX9_tradePool_152 : decode cX9_tradePool 152 = .ok (.iload 8, 2) := by decide +kernel
theorem dX9_tradePool_154 : decode cX9_tradePool 154 = .ok (.isub, 1) := by decide +kernel
theorem dX9_tradePool_155 : decode cX9_tradePool 155 = .ok (.istore_n 3, 1) := by decide +kernel
theorem dX9_tradePool_156 : decode cX9_tradePool 156 = .ok (.iinc 4 1, 3) := by decide +kernel
theorem dX9_tradePool_159 : decode cX9_tradePool 159 = .ok (.goto (-154), 3) := by decide +kernel
theorem dX9_tradePool_162 : decode cX9_tradePool 162 = .ok (.return_, 1) := by decide +kernel
theorem dX9_copyFrom_0 : decode cX9_copyFrom 0 = .ok (.aload_n 0, 1) := by decide +kernel
theorem dX9_copyFrom_1 : decode cX9_copyFrom 1 = .ok (.getfield 12, 3) := by decide +kernel
theorem dX9_copyFrom_4 : decode cX9_copyFrom 4 = .ok (.aload_n 1, 1) := by decide +kernel
theorem dX9_copyFrom_5 : decode cX9_copyFrom 5 = .ok (.getfield 12, 3) := by decide +kernel
theorem dX9_copyFrom_8 : decode cX9_copyFrom 8 = .ok (.invokevirtual 182, 3) := by decide +kernel
theorem dX9_copyFrom_11 : decode cX9_copyFrom 11 = .ok (.aload_n 0, 1) := by decide +kernel
theorem dX9_copyFrom_12 : decode cX9_copyFrom 12 = .ok (.getfield 21, 3) := by decide +kernel
theorem dX9_copyFrom_15 : decode cX9_copyFrom 15 = .ok (.aload_n 1, 1) := by decide +kernel
theorem dX9_copyFrom_16 : decode cX9_copyFrom 16 = .ok (.getfield 21, 3) := by decide +kernel
theorem dX9_copyFrom_19 : decode cX9_copyFrom 19 = .ok (.invokevirtual 186, 3) := by decide +kernel
theorem dX9_copyFrom_22 : decode cX9_copyFrom 22 = .ok (.aload_n 0, 1) := by decide +kernel
theorem dX9_copyFrom_23 : decode cX9_copyFrom 23 = .ok (.aload_n 1, 1) := by decide +kernel
theorem dX9_copyFrom_24 : decode cX9_copyFrom 24 = .ok (.getfield 25, 3) := by decide +kernel
theorem dX9_copyFrom_27 : decode cX9_copyFrom 27 = .ok (.putfield 25, 3) := by decide +kernel
theorem dX9_copyFrom_30 : decode cX9_copyFrom 30 = .ok (.aload_n 0, 1) := by decide +kernel
theorem dX9_copyFrom_31 : decode cX9_copyFrom 31 = .ok (.aload_n 1, 1) := by decide +kernel
theorem dX9_copyFrom_32 : decode cX9_copyFrom 32 = .ok (.getfield 29, 3) := by decide +kernel
theorem dX9_copyFrom_35 : decode cX9_copyFrom 35 = .ok (.putfield 29, 3) := by decide +kernel
theorem dX9_copyFrom_38 : decode cX9_copyFrom 38 = .ok (.aload_n 0, 1) := by decide +kernel
theorem dX9_copyFrom_39 : decode cX9_copyFrom 39 = .ok (.aload_n 1, 1) := by decide +kernel
theorem dX9_copyFrom_40 : decode cX9_copyFrom 40 = .ok (.getfield 33, 3) := by decide +kernel
theorem dX9_copyFrom_43 : decode cX9_copyFrom 43 = .ok (.putfield 33, 3) := by decide +kernel
theorem dX9_copyFrom_46 : decode cX9_copyFrom 46 = .ok (.aload_n 0, 1) := by decide +kernel
theorem dX9_copyFrom_47 : decode cX9_copyFrom 47 = .ok (.aload_n 1, 1) := by decide +kernel
theorem dX9_copyFrom_48 : decode cX9_copyFrom 48 = .ok (.getfield 36, 3) := by decide +kernel
theorem dX9_copyFrom_51 : decode cX9_copyFrom 51 = .ok (.putfield 36, 3) := by decide +kernel
theorem dX9_copyFrom_54 : decode cX9_copyFrom 54 = .ok (.aload_n 0, 1) := by decide +kernel
theorem dX9_copyFrom_55 : decode cX9_copyFrom 55 = .ok (.aload_n 1, 1) := by decide +kernel
theorem dX9_copyFrom_56 : decode cX9_copyFrom 56 = .ok (.getfield 39, 3) := by decide +kernel
theorem dX9_copyFrom_59 : decode cX9_copyFrom 59 = .ok (.putfield 39, 3) := by decide +kernel
theorem dX9_copyFrom_62 : decode cX9_copyFrom 62 = .ok (.aload_n 0, 1) := by decide +kernel
theorem dX9_copyFrom_63 : decode cX9_copyFrom 63 = .ok (.aload_n 1, 1) := by decide +kernel
theorem dX9_copyFrom_64 : decode cX9_copyFrom 64 = .ok (.getfield 42, 3) := by decide +kernel
theorem dX9_copyFrom_67 : decode cX9_copyFrom 67 = .ok (.putfield 42, 3) := by decide +kernel
theorem dX9_copyFrom_70 : decode cX9_copyFrom 70 = .ok (.aload_n 0, 1) := by decide +kernel
theorem dX9_copyFrom_71 : decode cX9_copyFrom 71 = .ok (.aload_n 1, 1) := by decide +kernel
theorem dX9_copyFrom_72 : decode cX9_copyFrom 72 = .ok (.getfield 45, 3) := by decide +kernel
theorem dX9_copyFrom_75 : decode cX9_copyFrom 75 = .ok (.putfield 45, 3) := by decide +kernel
theorem dX9_copyFrom_78 : decode cX9_copyFrom 78 = .ok (.return_, 1) := by decide +kernel
theorem dX11_init_0 : decode cX11_init 0 = .ok (.aload_n 0, 1) := by decide +kernel
theorem dX11_init_1 : decode cX11_init 1 = .ok (.invokespecial 1, 3) := by decide +kernel
theorem dX11_init_4 : decode cX11_init 4 = .ok (.aload_n 0, 1) := by decide +kernel
theorem dX11_init_5 : decode cX11_init 5 = .ok (.new 7, 3) := by decide +kernel
theorem dX11_init_8 : decode cX11_init 8 = .ok (.dup, 1) := by decide +kernel
theorem dX11_init_9 : decode cX11_init 9 = .ok (.invokespecial 9, 3) := by decide +kernel
theorem dX11_init_12 : decode cX11_init 12 = .ok (.putfield 10, 3) := by decide +kernel
theorem dX11_init_15 : decode cX11_init 15 = .ok (.aload_n 0, 1) := by decide +kernel
theorem dX11_init_16 : decode cX11_init 16 = .ok (.new 7, 3) := by decide +kernel
theorem dX11_init_19 : decode cX11_init 19 = .ok (.dup, 1) := by decide +kernel
theorem dX11_init_20 : decode cX11_init 20 = .ok (.invokespecial 9, 3) := by decide +kernel
theorem dX11_init_23 : decode cX11_init 23 = .ok (.putfield 16, 3) := by decide +kernel
theorem dX11_init_26 : decode cX11_init 26 = .ok (.aload_n 0, 1) := by decide +kernel
theorem dX11_init_27 : decode cX11_init 27 = .ok (.new 7, 3) := by decide +kernel
theorem dX11_init_30 : decode cX11_init 30 = .ok (.dup, 1) := by decide +kernel
theorem dX11_init_31 : decode cX11_init 31 = .ok (.invokespecial 9, 3) := by decide +kernel
theorem dX11_init_34 : decode cX11_init 34 = .ok (.putfield 19, 3) := by decide +kernel
theorem dX11_init_37 : decode cX11_init 37 = .ok (.aload_n 0, 1) := by decide +kernel
theorem dX11_init_38 : decode cX11_init 38 = .ok (.new 22, 3) := by decide +kernel
theorem dX11_init_41 : decode cX11_init 41 = .ok (.dup, 1) := by decide +kernel
theorem dX11_init_42 : decode cX11_init 42 = .ok (.invokespecial 24, 3) := by decide +kernel
theorem dX11_init_45 : decode cX11_init 45 = .ok (.putfield 25, 3) := by decide +kernel
theorem dX11_init_48 : decode cX11_init 48 = .ok (.aload_n 0, 1) := by decide +kernel
theorem dX11_init_49 : decode cX11_init 49 = .ok (.new 29, 3) := by decide +kernel
theorem dX11_init_52 : decode cX11_init 52 = .ok (.dup, 1) := by decide +kernel
theorem dX11_init_53 : decode cX11_init 53 = .ok (.invokespecial 31, 3) := by decide +kernel
theorem dX11_init_56 : decode cX11_init 56 = .ok (.putfield 32, 3) := by decide +kernel
theorem dX11_init_59 : decode cX11_init 59 = .ok (.aload_n 0, 1) := by decide +kernel
theorem dX11_init_60 : decode cX11_init 60 = .ok (.new 36, 3) := by decide +kernel
theorem dX11_init_63 : decode cX11_init 63 = .ok (.dup, 1) := by decide +kernel
theorem dX11_init_64 : decode cX11_init 64 = .ok (.invokespecial 38, 3) := by decide +kernel
theorem dX11_init_67 : decode cX11_init 67 = .ok (.putfield 39, 3) := by decide +kernel
theorem dX11_init_70 : decode cX11_init 70 = .ok (.aload_n 0, 1) := by decide +kernel
theorem dX11_init_71 : decode cX11_init 71 = .ok (.new 43, 3) := by decide +kernel
theorem dX11_init_74 : decode cX11_init 74 = .ok (.dup, 1) := by decide +kernel
theorem dX11_init_75 : decode cX11_init 75 = .ok (.invokespecial 45, 3) := by decide +kernel
theorem dX11_init_78 : decode cX11_init 78 = .ok (.putfield 46, 3) := by decide +kernel
theorem dX11_init_81 : decode cX11_init 81 = .ok (.aload_n 0, 1) := by decide +kernel
theorem dX11_init_82 : decode cX11_init 82 = .ok (.iconst 0, 1) := by decide +kernel
theorem dX11_init_83 : decode cX11_init 83 = .ok (.putfield 50, 3) := by decide +kernel
theorem dX11_init_86 : decode cX11_init 86 = .ok (.aload_n 0, 1) := by decide +kernel
theorem dX11_init_87 : decode cX11_init 87 = .ok (.iconst (-1), 1) := by decide +kernel
theorem dX11_init_88 : decode cX11_init 88 = .ok (.putfield 54, 3) := by decide +kernel
theorem dX11_init_91 : decode cX11_init 91 = .ok (.aload_n 0, 1) := by decide +kernel
theorem dX11_init_92 : decode cX11_init 92 = .ok (.iconst (-1), 1) := by decide +kernel
theorem dX11_init_93 : decode cX11_init 93 = .ok (.putfield 58, 3) := by decide +kernel
theorem dX11_init_96 : decode cX11_init 96 = .ok (.return_, 1) := by decide +kernel
theorem dX11_addStall_0 : decode cX11_addStall 0 = .ok (.aload_n 0, 1) := by decide +kernel
theorem dX11_addStall_1 : decode cX11_addStall 1 = .ok (.getfield 10, 3) := by decide +kernel
theorem dX11_addStall_4 : decode cX11_addStall 4 = .ok (.iload_n 1, 1) := by decide +kernel
theorem dX11_addStall_5 : decode cX11_addStall 5 = .ok (.iload_n 2, 1) := by decide +kernel
theorem dX11_addStall_6 : decode cX11_addStall 6 = .ok (.invokevirtual 61, 3) := by decide +kernel
theorem dX11_addStall_9 : decode cX11_addStall 9 = .ok (.invokestatic 65, 3) := by decide +kernel
theorem dX11_addStall_12 : decode cX11_addStall 12 = .ok (.aload_n 0, 1) := by decide +kernel
theorem dX11_addStall_13 : decode cX11_addStall 13 = .ok (.getfield 25, 3) := by decide +kernel
theorem dX11_addStall_16 : decode cX11_addStall 16 = .ok (.aload_n 0, 1) := by decide +kernel
theorem dX11_addStall_17 : decode cX11_addStall 17 = .ok (.getfield 10, 3) := by decide +kernel
theorem dX11_addStall_20 : decode cX11_addStall 20 = .ok (.invokevirtual 69, 3) := by decide +kernel
theorem dX11_addStall_23 : decode cX11_addStall 23 = .ok (.aload_n 0, 1) := by decide +kernel
theorem dX11_addStall_24 : decode cX11_addStall 24 = .ok (.getfield 10, 3) := by decide +kernel
theorem dX11_addStall_27 : decode cX11_addStall 27 = .ok (.getfield 73, 3) := by decide +kernel
theorem dX11_addStall_30 : decode cX11_addStall 30 = .ok (.iload_n 1, 1) := by decide +kernel
theorem dX11_addStall_31 : decode cX11_addStall 31 = .ok (.iload_n 2, 1) := by decide +kernel
theorem dX11_addStall_32 : decode cX11_addStall 32 = .ok (.invokevirtual 77, 3) := by decide +kernel
theorem dX11_addStall_35 : decode cX11_addStall 35 = .ok (.ireturn, 1) := by decide +kernel
theorem dX11_placeBuy_0 : decode cX11_placeBuy 0 = .ok (.aload_n 0, 1) := by decide +kernel
theorem dX11_placeBuy_1 : decode cX11_placeBuy 1 = .ok (.iconst 1, 1) := by decide +kernel
theorem dX11_placeBuy_2 : decode cX11_placeBuy 2 = .ok (.iload_n 1, 1) := by decide +kernel
theorem dX11_placeBuy_3 : decode cX11_placeBuy 3 = .ok (.iload_n 2, 1) := by decide +kernel
theorem dX11_placeBuy_4 : decode cX11_placeBuy 4 = .ok (.iload_n 3, 1) := by decide +kernel
theorem dX11_placeBuy_5 : decode cX11_placeBuy 5 = .ok (.iconst 0, 1) := by decide +kernel
theorem dX11_placeBuy_6 : decode cX11_placeBuy 6 = .ok (.iconst 1, 1) := by decide +kernel
theorem dX11_placeBuy_7 : decode cX11_placeBuy 7 = .ok (.invokevirtual 83, 3) := by decide +kernel
theorem dX11_placeBuy_10 : decode cX11_placeBuy 10 = .ok (.ireturn, 1) := by decide +kernel
theorem dX11_placeSell_0 : decode cX11_placeSell 0 = .ok (.aload_n 0, 1) := by decide +kernel
theorem dX11_placeSell_1 : decode cX11_placeSell 1 = .ok (.iconst 0, 1) := by decide +kernel
theorem dX11_placeSell_2 : decode cX11_placeSell 2 = .ok (.iload_n 1, 1) := by decide +kernel
theorem dX11_placeSell_3 : decode cX11_placeSell 3 = .ok (.iload_n 2, 1) := by decide +kernel
theorem dX11_placeSell_4 : decode cX11_placeSell 4 = .ok (.iload_n 3, 1) := by decide +kernel
theorem dX11_placeSell_5 : decode cX11_placeSell 5 = .ok (.iconst 0, 1) := by decide +kernel
theorem dX11_placeSell_6 : decode cX11_placeSell 6 = .ok (.iconst 1, 1) := by decide +kernel
theorem dX11_placeSell_7 : decode cX11_placeSell 7 = .ok (.invokevirtual 83, 3) := by decide +kernel
theorem dX11_placeSell_10 : decode cX11_placeSell 10 = .ok (.ireturn, 1) := by decide +kernel
theorem dX11_placeBuyFor_0 : decode cX11_placeBuyFor 0 = .ok (.aload_n 0, 1) := by decide +kernel
theorem dX11_placeBuyFor_1 : decode cX11_placeBuyFor 1 = .ok (.iconst 1, 1) := by decide +kernel
theorem dX11_placeBuyFor_2 : decode cX11_placeBuyFor 2 = .ok (.iload_n 1, 1) := by decide +kernel
theorem dX11_placeBuyFor_3 : decode cX11_placeBuyFor 3 = .ok (.iload_n 2, 1) := by decide +kernel
theorem dX11_placeBuyFor_4 : decode cX11_placeBuyFor 4 = .ok (.iload_n 3, 1) := by decide +kernel
theorem dX11_placeBuyFor_5 : decode cX11_placeBuyFor 5 = .ok (.iload 4, 2) := by decide +kernel
theorem dX11_placeBuyFor_7 : decode cX11_placeBuyFor 7 = .ok (.iload 4, 2) := by decide +kernel
theorem dX11_placeBuyFor_9 : decode cX11_placeBuyFor 9 = .ok (.iconst 1, 1) := by decide +kernel
theorem dX11_placeBuyFor_10 : decode cX11_placeBuyFor 10 = .ok (.bipush 60, 2) := by decide +kernel
theorem dX11_placeBuyFor_12 : decode cX11_placeBuyFor 12 = .ok (.invokestatic 87, 3) := by decide +kernel
theorem dX11_placeBuyFor_15 : decode cX11_placeBuyFor 15 = .ok (.invokevirtual 83, 3) := by decide +kernel
theorem dX11_placeBuyFor_18 : decode cX11_placeBuyFor 18 = .ok (.ireturn, 1) := by decide +kernel
theorem dX11_placeSellFor_0 : decode cX11_placeSellFor 0 = .ok (.aload_n 0, 1) := by decide +kernel
theorem dX11_placeSellFor_1 : decode cX11_placeSellFor 1 = .ok (.iconst 0, 1) := by decide +kernel
theorem dX11_placeSellFor_2 : decode cX11_placeSellFor 2 = .ok (.iload_n 1, 1) := by decide +kernel
theorem dX11_placeSellFor_3 : decode cX11_placeSellFor 3 = .ok (.iload_n 2, 1) := by decide +kernel
theorem dX11_placeSellFor_4 : decode cX11_placeSellFor 4 = .ok (.iload_n 3, 1) := by decide +kernel
theorem dX11_placeSellFor_5 : decode cX11_placeSellFor 5 = .ok (.iload 4, 2) := by decide +kernel
theorem dX11_placeSellFor_7 : decode cX11_placeSellFor 7 = .ok (.iload 4, 2) := by decide +kernel
theorem dX11_placeSellFor_9 : decode cX11_placeSellFor 9 = .ok (.iconst 1, 1) := by decide +kernel
theorem dX11_placeSellFor_10 : decode cX11_placeSellFor 10 = .ok (.bipush 60, 2) := by decide +kernel
theorem dX11_placeSellFor_12 : decode cX11_placeSellFor 12 = .ok (.invokestatic 87, 3) := by decide +kernel
theorem dX11_placeSellFor_15 : decode cX11_placeSellFor 15 = .ok (.invokevirtual 83, 3) := by decide +kernel
theorem dX11_placeSellFor_18 : decode cX11_placeSellFor 18 = .ok (.ireturn, 1) := by decide +kernel
theorem dX11_takeBuy_0 : decode cX11_takeBuy 0 = .ok (.aload_n 0, 1) := by decide +kernel
theorem dX11_takeBuy_1 : decode cX11_takeBuy 1 = .ok (.iconst 1, 1) := by decide +kernel
theorem dX11_takeBuy_2 : decode cX11_takeBuy 2 = .ok (.iload_n 1, 1) := by decide +kernel
theorem dX11_takeBuy_3 : decode cX11_takeBuy 3 = .ok (.iload_n 2, 1) := by decide +kernel
theorem dX11_takeBuy_4 : decode cX11_takeBuy 4 = .ok (.iload_n 3, 1) := by decide +kernel
theorem dX11_takeBuy_5 : decode cX11_takeBuy 5 = .ok (.invokevirtual 91, 3) := by decide +kernel
theorem dX11_takeBuy_8 : decode cX11_takeBuy 8 = .ok (.ireturn, 1) := by decide +kernel
theorem dX11_takeSell_0 : decode cX11_takeSell 0 = .ok (.aload_n 0, 1) := by decide +kernel
theorem dX11_takeSell_1 : decode cX11_takeSell 1 = .ok (.iconst 0, 1) := by decide +kernel
theorem dX11_takeSell_2 : decode cX11_takeSell 2 = .ok (.iload_n 1, 1) := by decide +kernel
theorem dX11_takeSell_3 : decode cX11_takeSell 3 = .ok (.iload_n 2, 1) := by decide +kernel
theorem dX11_takeSell_4 : decode cX11_takeSell 4 = .ok (.iload_n 3, 1) := by decide +kernel
theorem dX11_takeSell_5 : decode cX11_takeSell 5 = .ok (.invokevirtual 91, 3) := by decide +kernel
theorem dX11_takeSell_8 : decode cX11_takeSell 8 = .ok (.ireturn, 1) := by decide +kernel
theorem dX11_cancel_0 : decode cX11_cancel 0 = .ok (.aload_n 0, 1) := by decide +kernel
theorem dX11_cancel_1 : decode cX11_cancel 1 = .ok (.getfield 10, 3) := by decide +kernel
theorem dX11_cancel_4 : decode cX11_cancel 4 = .ok (.iload_n 1, 1) := by decide +kernel
theorem dX11_cancel_5 : decode cX11_cancel 5 = .ok (.invokevirtual 95, 3) := by decide +kernel
theorem dX11_cancel_8 : decode cX11_cancel 8 = .ok (.invokestatic 65, 3) := by decide +kernel
theorem dX11_cancel_11 : decode cX11_cancel 11 = .ok (.aload_n 0, 1) := by decide +kernel
theorem dX11_cancel_12 : decode cX11_cancel 12 = .ok (.getfield 25, 3) := by decide +kernel
theorem dX11_cancel_15 : decode cX11_cancel 15 = .ok (.aload_n 0, 1) := by decide +kernel
theorem dX11_cancel_16 : decode cX11_cancel 16 = .ok (.getfield 10, 3) := by decide +kernel
theorem dX11_cancel_19 : decode cX11_cancel 19 = .ok (.invokevirtual 69, 3) := by decide +kernel
theorem dX11_cancel_22 : decode cX11_cancel 22 = .ok (.aload_n 0, 1) := by decide +kernel
theorem dX11_cancel_23 : decode cX11_cancel 23 = .ok (.getfield 10, 3) := by decide +kernel
theorem dX11_cancel_26 : decode cX11_cancel 26 = .ok (.iload_n 1, 1) := by decide +kernel
theorem dX11_cancel_27 : decode cX11_cancel 27 = .ok (.invokevirtual 99, 3) := by decide +kernel
theorem dX11_cancel_30 : decode cX11_cancel 30 = .ok (.ireturn, 1) := by decide +kernel
theorem dX11_pass_0 : decode cX11_pass 0 = .ok (.aload_n 0, 1) := by decide +kernel
theorem dX11_pass_1 : decode cX11_pass 1 = .ok (.getfield 10, 3) := by decide +kernel
theorem dX11_pass_4 : decode cX11_pass 4 = .ok (.iload_n 1, 1) := by decide +kernel
theorem dX11_pass_5 : decode cX11_pass 5 = .ok (.invokevirtual 103, 3) := by decide +kernel
theorem dX11_pass_8 : decode cX11_pass 8 = .ok (.invokestatic 65, 3) := by decide +kernel
theorem dX11_pass_11 : decode cX11_pass 11 = .ok (.aload_n 0, 1) := by decide +kernel
theorem dX11_pass_12 : decode cX11_pass 12 = .ok (.getfield 25, 3) := by decide +kernel
theorem dX11_pass_15 : decode cX11_pass 15 = .ok (.aload_n 0, 1) := by decide +kernel
theorem dX11_pass_16 : decode cX11_pass 16 = .ok (.getfield 10, 3) := by decide +kernel
theorem dX11_pass_19 : decode cX11_pass 19 = .ok (.invokevirtual 69, 3) := by decide +kernel
theorem dX11_pass_22 : decode cX11_pass 22 = .ok (.aload_n 0, 1) := by decide +kernel
theorem dX11_pass_23 : decode cX11_pass 23 = .ok (.getfield 10, 3) := by decide +kernel
theorem dX11_pass_26 : decode cX11_pass 26 = .ok (.iload_n 1, 1) := by decide +kernel
theorem dX11_pass_27 : decode cX11_pass 27 = .ok (.invokevirtual 106, 3) := by decide +kernel
theorem dX11_pass_30 : decode cX11_pass 30 = .ok (.ireturn, 1) := by decide +kernel
theorem dX11_openPool_0 : decode cX11_openPool 0 = .ok (.aload_n 0, 1) := by decide +kernel
theorem dX11_openPool_1 : decode cX11_openPool 1 = .ok (.getfield 10, 3) := by decide +kernel
theorem dX11_openPool_4 : decode cX11_openPool 4 = .ok (.invokevirtual 109, 3) := by decide +kernel
theorem dX11_openPool_7 : decode cX11_openPool 7 = .ok (.invokestatic 65, 3) := by decide +kernel
theorem dX11_openPool_10 : decode cX11_openPool 10 = .ok (.aload_n 0, 1) := by decide +kernel
theorem dX11_openPool_11 : decode cX11_openPool 11 = .ok (.getfield 25, 3) := by decide +kernel
theorem dX11_openPool_14 : decode cX11_openPool 14 = .ok (.aload_n 0, 1) := by decide +kernel
theorem dX11_openPool_15 : decode cX11_openPool 15 = .ok (.getfield 10, 3) := by decide +kernel
theorem dX11_openPool_18 : decode cX11_openPool 18 = .ok (.invokevirtual 69, 3) := by decide +kernel
theorem dX11_openPool_21 : decode cX11_openPool 21 = .ok (.aload_n 0, 1) := by decide +kernel
theorem dX11_openPool_22 : decode cX11_openPool 22 = .ok (.getfield 10, 3) := by decide +kernel
theorem dX11_openPool_25 : decode cX11_openPool 25 = .ok (.invokevirtual 113, 3) := by decide +kernel
theorem dX11_openPool_28 : decode cX11_openPool 28 = .ok (.ireturn, 1) := by decide +kernel
theorem dX11_closePool_0 : decode cX11_closePool 0 = .ok (.aload_n 0, 1) := by decide +kernel
theorem dX11_closePool_1 : decode cX11_closePool 1 = .ok (.getfield 10, 3) := by decide +kernel
theorem dX11_closePool_4 : decode cX11_closePool 4 = .ok (.invokevirtual 117, 3) := by decide +kernel
theorem dX11_closePool_7 : decode cX11_closePool 7 = .ok (.invokestatic 65, 3) := by decide +kernel
theorem dX11_closePool_10 : decode cX11_closePool 10 = .ok (.aload_n 0, 1) := by decide +kernel
theorem dX11_closePool_11 : decode cX11_closePool 11 = .ok (.getfield 25, 3) := by decide +kernel
theorem dX11_closePool_14 : decode cX11_closePool 14 = .ok (.aload_n 0, 1) := by decide +kernel
theorem dX11_closePool_15 : decode cX11_closePool 15 = .ok (.getfield 10, 3) := by decide +kernel
theorem dX11_closePool_18 : decode cX11_closePool 18 = .ok (.invokevirtual 69, 3) := by decide +kernel
theorem dX11_closePool_21 : decode cX11_closePool 21 = .ok (.aload_n 0, 1) := by decide +kernel
theorem dX11_closePool_22 : decode cX11_closePool 22 = .ok (.getfield 10, 3) := by decide +kernel
theorem dX11_closePool_25 : decode cX11_closePool 25 = .ok (.invokevirtual 120, 3) := by decide +kernel
theorem dX11_closePool_28 : decode cX11_closePool 28 = .ok (.ireturn, 1) := by decide +kernel
theorem dX11_stallCount_0 : decode cX11_stallCount 0 = .ok (.aload_n 0, 1) := by decide +kernel
theorem dX11_stallCount_1 : decode cX11_stallCount 1 = .ok (.getfield 10, 3) := by decide +kernel
theorem dX11_stallCount_4 : decode cX11_stallCount 4 = .ok (.getfield 73, 3) := by decide +kernel
theorem dX11_stallCount_7 : decode cX11_stallCount 7 = .ok (.getfield 123, 3) := by decide +kernel
theorem dX11_stallCount_10 : decode cX11_stallCount 10 = .ok (.ireturn, 1) := by decide +kernel
theorem dX11_moneyOf_0 : decode cX11_moneyOf 0 = .ok (.aload_n 0, 1) := by decide +kernel
theorem dX11_moneyOf_1 : decode cX11_moneyOf 1 = .ok (.iload_n 1, 1) := by decide +kernel
theorem dX11_moneyOf_2 : decode cX11_moneyOf 2 = .ok (.invokevirtual 126, 3) := by decide +kernel
theorem dX11_moneyOf_5 : decode cX11_moneyOf 5 = .ok (.aload_n 0, 1) := by decide +kernel
theorem dX11_moneyOf_6 : decode cX11_moneyOf 6 = .ok (.getfield 10, 3) := by decide +kernel
theorem dX11_moneyOf_9 : decode cX11_moneyOf 9 = .ok (.getfield 73, 3) := by decide +kernel
theorem dX11_moneyOf_12 : decode cX11_moneyOf 12 = .ok (.getfield 130, 3) := by decide +kernel
theorem dX11_moneyOf_15 : decode cX11_moneyOf 15 = .ok (.iload_n 1, 1) := by decide +kernel
theorem dX11_moneyOf_16 : decode cX11_moneyOf 16 = .ok (.invokevirtual 134, 3) := by decide +kernel
theorem dX11_moneyOf_19 : decode cX11_moneyOf 19 = .ok (.ireturn, 1) := by decide +kernel
theorem dX11_dropsOf_0 : decode cX11_dropsOf 0 = .ok (.aload_n 0, 1) := by decide +kernel
theorem dX11_dropsOf_1 : decode cX11_dropsOf 1 = .ok (.iload_n 1, 1) := by decide +kernel
theorem dX11_dropsOf_2 : decode cX11_dropsOf 2 = .ok (.invokevirtual 126, 3) := by decide +kernel
theorem dX11_dropsOf_5 : decode cX11_dropsOf 5 = .ok (.aload_n 0, 1) := by decide +kernel
theorem dX11_dropsOf_6 : decode cX11_dropsOf 6 = .ok (.getfield 10, 3) := by decide +kernel
theorem dX11_dropsOf_9 : decode cX11_dropsOf 9 = .ok (.getfield 73, 3) := by decide +kernel
theorem dX11_dropsOf_12 : decode cX11_dropsOf 12 = .ok (.getfield 139, 3) := by decide +kernel
theorem dX11_dropsOf_15 : decode cX11_dropsOf 15 = .ok (.iload_n 1, 1) := by decide +kernel
theorem dX11_dropsOf_16 : decode cX11_dropsOf 16 = .ok (.invokevirtual 134, 3) := by decide +kernel
theorem dX11_dropsOf_19 : decode cX11_dropsOf 19 = .ok (.ireturn, 1) := by decide +kernel
theorem dX11_freeMoneyOf_0 : decode cX11_freeMoneyOf 0 = .ok (.aload_n 0, 1) := by decide +kernel
theorem dX11_freeMoneyOf_1 : decode cX11_freeMoneyOf 1 = .ok (.iload_n 1, 1) := by decide +kernel
theorem dX11_freeMoneyOf_2 : decode cX11_freeMoneyOf 2 = .ok (.invokevirtual 126, 3) := by decide +kernel
theorem dX11_freeMoneyOf_5 : decode cX11_freeMoneyOf 5 = .ok (.aload_n 0, 1) := by decide +kernel
theorem dX11_freeMoneyOf_6 : decode cX11_freeMoneyOf 6 = .ok (.getfield 10, 3) := by decide +kernel
theorem dX11_freeMoneyOf_9 : decode cX11_freeMoneyOf 9 = .ok (.iload_n 1, 1) := by decide +kernel
theorem dX11_freeMoneyOf_10 : decode cX11_freeMoneyOf 10 = .ok (.invokevirtual 142, 3) := by decide +kernel
theorem dX11_freeMoneyOf_13 : decode cX11_freeMoneyOf 13 = .ok (.ireturn, 1) := by decide +kernel
theorem dX11_freeDropsOf_0 : decode cX11_freeDropsOf 0 = .ok (.aload_n 0, 1) := by decide +kernel
theorem dX11_freeDropsOf_1 : decode cX11_freeDropsOf 1 = .ok (.iload_n 1, 1) := by decide +kernel
theorem dX11_freeDropsOf_2 : decode cX11_freeDropsOf 2 = .ok (.invokevirtual 126, 3) := by decide +kernel
theorem dX11_freeDropsOf_5 : decode cX11_freeDropsOf 5 = .ok (.aload_n 0, 1) := by decide +kernel
theorem dX11_freeDropsOf_6 : decode cX11_freeDropsOf 6 = .ok (.getfield 10, 3) := by decide +kernel
theorem dX11_freeDropsOf_9 : decode cX11_freeDropsOf 9 = .ok (.iload_n 1, 1) := by decide +kernel
theorem dX11_freeDropsOf_10 : decode cX11_freeDropsOf 10 = .ok (.invokevirtual 145, 3) := by decide +kernel
theorem dX11_freeDropsOf_13 : decode cX11_freeDropsOf 13 = .ok (.ireturn, 1) := by decide +kernel
theorem dX11_totalMoney_0 : decode cX11_totalMoney 0 = .ok (.aload_n 0, 1) := by decide +kernel
theorem dX11_totalMoney_1 : decode cX11_totalMoney 1 = .ok (.getfield 10, 3) := by decide +kernel
theorem dX11_totalMoney_4 : decode cX11_totalMoney 4 = .ok (.getfield 73, 3) := by decide +kernel
theorem dX11_totalMoney_7 : decode cX11_totalMoney 7 = .ok (.getfield 130, 3) := by decide +kernel
theorem dX11_totalMoney_10 : decode cX11_totalMoney 10 = .ok (.invokevirtual 148, 3) := by decide +kernel
theorem dX11_totalMoney_13 : decode cX11_totalMoney 13 = .ok (.ireturn, 1) := by decide +kernel
theorem dX11_totalDrops_0 : decode cX11_totalDrops 0 = .ok (.aload_n 0, 1) := by decide +kernel
theorem dX11_totalDrops_1 : decode cX11_totalDrops 1 = .ok (.getfield 10, 3) := by decide +kernel
theorem dX11_totalDrops_4 : decode cX11_totalDrops 4 = .ok (.getfield 73, 3) := by decide +kernel
theorem dX11_totalDrops_7 : decode cX11_totalDrops 7 = .ok (.getfield 139, 3) := by decide +kernel
theorem dX11_totalDrops_10 : decode cX11_totalDrops 10 = .ok (.invokevirtual 148, 3) := by decide +kernel
theorem dX11_totalDrops_13 : decode cX11_totalDrops 13 = .ok (.ireturn, 1) := by decide +kernel
theorem dX11_stallByMoney_0 : decode cX11_stallByMoney 0 = .ok (.aload_n 0, 1) := by decide +kernel
theorem dX11_stallByMoney_1 : decode cX11_stallByMoney 1 = .ok (.getfield 10, 3) := by decide +kernel
theorem dX11_stallByMoney_4 : decode cX11_stallByMoney 4 = .ok (.getfield 73, 3) := by decide +kernel
theorem dX11_stallByMoney_7 : decode cX11_stallByMoney 7 = .ok (.iload_n 1, 1) := by decide +kernel
theorem dX11_stallByMoney_8 : decode cX11_stallByMoney 8 = .ok (.invokevirtual 151, 3) := by decide +kernel
theorem dX11_stallByMoney_11 : decode cX11_stallByMoney 11 = .ok (.istore_n 2, 1) := by decide +kernel
theorem dX11_stallByMoney_12 : decode cX11_stallByMoney 12 = .ok (.iload_n 2, 1) := by decide +kernel
theorem dX11_stallByMoney_13 : decode cX11_stallByMoney 13 = .ok (.iconst (-1), 1) := by decide +kernel
theorem dX11_stallByMoney_14 : decode cX11_stallByMoney 14 = .ok (.if_icmp .ne 13, 3) := by decide +kernel
theorem dX11_stallByMoney_17 : decode cX11_stallByMoney 17 = .ok (.new 154, 3) := by decide +kernel
theorem dX11_stallByMoney_20 : decode cX11_stallByMoney 20 = .ok (.dup, 1) := by decide +kernel
theorem dX11_stallByMoney_21 : decode cX11_stallByMoney 21 = .ok (.ldc 156, 2) := by decide +kernel
theorem dX11_stallByMoney_23 : decode cX11_stallByMoney 23 = .ok (.invokespecial 158, 3) := by decide +kernel
theorem dX11_stallByMoney_26 : decode cX11_stallByMoney 26 = .ok (.athrow, 1) := by decide +kernel
theorem dX11_stallByMoney_27 : decode cX11_stallByMoney 27 = .ok (.iload_n 2, 1) := by decide +kernel
theorem dX11_stallByMoney_28 : decode cX11_stallByMoney 28 = .ok (.ireturn, 1) := by decide +kernel
theorem dX11_orderCount_0 : decode cX11_orderCount 0 = .ok (.aload_n 0, 1) := by decide +kernel
theorem dX11_orderCount_1 : decode cX11_orderCount 1 = .ok (.getfield 10, 3) := by decide +kernel
theorem dX11_orderCount_4 : decode cX11_orderCount 4 = .ok (.getfield 161, 3) := by decide +kernel
theorem dX11_orderCount_7 : decode cX11_orderCount 7 = .ok (.getfield 165, 3) := by decide +kernel
theorem dX11_orderCount_10 : decode cX11_orderCount 10 = .ok (.ireturn, 1) := by decide +kernel
theorem dX11_orderAt_0 : decode cX11_orderAt 0 = .ok (.iload_n 1, 1) := by decide +kernel
theorem dX11_orderAt_1 : decode cX11_orderAt 1 = .ok (.ifCond .lt 17, 3) := by decide +kernel
theorem dX11_orderAt_4 : decode cX11_orderAt 4 = .ok (.iload_n 1, 1) := by decide +kernel
theorem dX11_orderAt_5 : decode cX11_orderAt 5 = .ok (.aload_n 0, 1) := by decide +kernel
theorem dX11_orderAt_6 : decode cX11_orderAt 6 = .ok (.getfield 10, 3) := by decide +kernel
theorem dX11_orderAt_9 : decode cX11_orderAt 9 = .ok (.getfield 161, 3) := by decide +kernel
theorem dX11_orderAt_12 : decode cX11_orderAt 12 = .ok (.getfield 165, 3) := by decide +kernel
theorem dX11_orderAt_15 : decode cX11_orderAt 15 = .ok (.if_icmp .lt 13, 3) := by decide +kernel
theorem dX11_orderAt_18 : decode cX11_orderAt 18 = .ok (.new 168, 3) := by decide +kernel
theorem dX11_orderAt_21 : decode cX11_orderAt 21 = .ok (.dup, 1) := by decide +kernel
theorem dX11_orderAt_22 : decode cX11_orderAt 22 = .ok (.ldc 170, 2) := by decide +kernel
theorem dX11_orderAt_24 : decode cX11_orderAt 24 = .ok (.invokespecial 172, 3) := by decide +kernel
theorem dX11_orderAt_27 : decode cX11_orderAt 27 = .ok (.athrow, 1) := by decide +kernel
theorem dX11_orderAt_28 : decode cX11_orderAt 28 = .ok (.aload_n 0, 1) := by decide +kernel
theorem dX11_orderAt_29 : decode cX11_orderAt 29 = .ok (.getfield 10, 3) := by decide +kernel
theorem dX11_orderAt_32 : decode cX11_orderAt 32 = .ok (.getfield 161, 3) := by decide +kernel
theorem dX11_orderAt_35 : decode cX11_orderAt 35 = .ok (.getfield 173, 3) := by decide +kernel
theorem dX11_orderAt_38 : decode cX11_orderAt 38 = .ok (.iload_n 1, 1) := by decide +kernel
theorem dX11_orderAt_39 : decode cX11_orderAt 39 = .ok (.invokevirtual 134, 3) := by decide +kernel
theorem dX11_orderAt_42 : decode cX11_orderAt 42 = .ok (.ireturn, 1) := by decide +kernel
theorem dX11_stallOf_0 : decode cX11_stallOf 0 = .ok (.aload_n 0, 1) := by decide +kernel
theorem dX11_stallOf_1 : decode cX11_stallOf 1 = .ok (.getfield 10, 3) := by decide +kernel
theorem dX11_stallOf_4 : decode cX11_stallOf 4 = .ok (.getfield 161, 3) := by decide +kernel
theorem dX11_stallOf_7 : decode cX11_stallOf 7 = .ok (.getfield 176, 3) := by decide +kernel
theorem dX11_stallOf_10 : decode cX11_stallOf 10 = .ok (.aload_n 0, 1) := by decide +kernel
theorem dX11_stallOf_11 : decode cX11_stallOf 11 = .ok (.iload_n 1, 1) := by decide +kernel
theorem dX11_stallOf_12 : decode cX11_stallOf 12 = .ok (.invokevirtual 178, 3) := by decide +kernel
theorem dX11_stallOf_15 : decode cX11_stallOf 15 = .ok (.invokevirtual 134, 3) := by decide +kernel
theorem dX11_stallOf_18 : decode cX11_stallOf 18 = .ok (.ireturn, 1) := by decide +kernel
theorem dX11_isBuying_0 : decode cX11_isBuying 0 = .ok (.aload_n 0, 1) := by decide +kernel
theorem dX11_isBuying_1 : decode cX11_isBuying 1 = .ok (.getfield 10, 3) := by decide +kernel
theorem dX11_isBuying_4 : decode cX11_isBuying 4 = .ok (.getfield 161, 3) := by decide +kernel
theorem dX11_isBuying_7 : decode cX11_isBuying 7 = .ok (.aload_n 0, 1) := by decide +kernel
theorem dX11_isBuying_8 : decode cX11_isBuying 8 = .ok (.iload_n 1, 1) := by decide +kernel
theorem dX11_isBuying_9 : decode cX11_isBuying 9 = .ok (.invokevirtual 178, 3) := by decide +kernel
theorem dX11_isBuying_12 : decode cX11_isBuying 12 = .ok (.invokevirtual 181, 3) := by decide +kernel
theorem dX11_isBuying_15 : decode cX11_isBuying 15 = .ok (.ireturn, 1) := by decide +kernel
theorem dX11_priceOf_0 : decode cX11_priceOf 0 = .ok (.aload_n 0, 1) := by decide +kernel
theorem dX11_priceOf_1 : decode cX11_priceOf 1 = .ok (.getfield 10, 3) := by decide +kernel
theorem dX11_priceOf_4 : decode cX11_priceOf 4 = .ok (.getfield 161, 3) := by decide +kernel
theorem dX11_priceOf_7 : decode cX11_priceOf 7 = .ok (.getfield 185, 3) := by decide +kernel
theorem dX11_priceOf_10 : decode cX11_priceOf 10 = .ok (.aload_n 0, 1) := by decide +kernel
theorem dX11_priceOf_11 : decode cX11_priceOf 11 = .ok (.iload_n 1, 1) := by decide +kernel
theorem dX11_priceOf_12 : decode cX11_priceOf 12 = .ok (.invokevirtual 178, 3) := by decide +kernel
theorem dX11_priceOf_15 : decode cX11_priceOf 15 = .ok (.invokevirtual 134, 3) := by decide +kernel
theorem dX11_priceOf_18 : decode cX11_priceOf 18 = .ok (.ireturn, 1) := by decide +kernel
theorem dX11_quantityOf_0 : decode cX11_quantityOf 0 = .ok (.aload_n 0, 1) := by decide +kernel
theorem dX11_quantityOf_1 : decode cX11_quantityOf 1 = .ok (.getfield 10, 3) := by decide +kernel
theorem dX11_quantityOf_4 : decode cX11_quantityOf 4 = .ok (.getfield 161, 3) := by decide +kernel
theorem dX11_quantityOf_7 : decode cX11_quantityOf 7 = .ok (.getfield 188, 3) := by decide +kernel
theorem dX11_quantityOf_10 : decode cX11_quantityOf 10 = .ok (.aload_n 0, 1) := by decide +kernel
theorem dX11_quantityOf_11 : decode cX11_quantityOf 11 = .ok (.iload_n 1, 1) := by decide +kernel
theorem dX11_quantityOf_12 : decode cX11_quantityOf 12 = .ok (.invokevirtual 178, 3) := by decide +kernel
theorem dX11_quantityOf_15 : decode cX11_quantityOf 15 = .ok (.invokevirtual 134, 3) := by decide +kernel
theorem dX11_quantityOf_18 : decode cX11_quantityOf 18 = .ok (.ireturn, 1) := by decide +kernel
theorem dX11_minutesLeft_0 : decode cX11_minutesLeft 0 = .ok (.aload_n 0, 1) := by decide +kernel
theorem dX11_minutesLeft_1 : decode cX11_minutesLeft 1 = .ok (.getfield 10, 3) := by decide +kernel
theorem dX11_minutesLeft_4 : decode cX11_minutesLeft 4 = .ok (.getfield 161, 3) := by decide +kernel
theorem dX11_minutesLeft_7 : decode cX11_minutesLeft 7 = .ok (.getfield 191, 3) := by decide +kernel
theorem dX11_minutesLeft_10 : decode cX11_minutesLeft 10 = .ok (.aload_n 0, 1) := by decide +kernel
theorem dX11_minutesLeft_11 : decode cX11_minutesLeft 11 = .ok (.iload_n 1, 1) := by decide +kernel
theorem dX11_minutesLeft_12 : decode cX11_minutesLeft 12 = .ok (.invokevirtual 178, 3) := by decide +kernel
theorem dX11_minutesLeft_15 : decode cX11_minutesLeft 15 = .ok (.invokevirtual 134, 3) := by decide +kernel
theorem dX11_minutesLeft_18 : decode cX11_minutesLeft 18 = .ok (.istore_n 2, 1) := by decide +kernel
theorem dX11_minutesLeft_19 : decode cX11_minutesLeft 19 = .ok (.iload_n 2, 1) := by decide +kernel
theorem dX11_minutesLeft_20 : decode cX11_minutesLeft 20 = .ok (.ifCond .ne 13, 3) := by decide +kernel
theorem dX11_minutesLeft_23 : decode cX11_minutesLeft 23 = .ok (.new 194, 3) := by decide +kernel
theorem dX11_minutesLeft_26 : decode cX11_minutesLeft 26 = .ok (.dup, 1) := by decide +kernel
theorem dX11_minutesLeft_27 : decode cX11_minutesLeft 27 = .ok (.ldc 196, 2) := by decide +kernel
theorem dX11_minutesLeft_29 : decode cX11_minutesLeft 29 = .ok (.invokespecial 198, 3) := by decide +kernel
theorem dX11_minutesLeft_32 : decode cX11_minutesLeft 32 = .ok (.athrow, 1) := by decide +kernel
theorem dX11_minutesLeft_33 : decode cX11_minutesLeft 33 = .ok (.iload_n 2, 1) := by decide +kernel
theorem dX11_minutesLeft_34 : decode cX11_minutesLeft 34 = .ok (.ireturn, 1) := by decide +kernel
theorem dX11_bestBuy_0 : decode cX11_bestBuy 0 = .ok (.aload_n 0, 1) := by decide +kernel
theorem dX11_bestBuy_1 : decode cX11_bestBuy 1 = .ok (.iconst 1, 1) := by decide +kernel
theorem dX11_bestBuy_2 : decode cX11_bestBuy 2 = .ok (.invokevirtual 199, 3) := by decide +kernel
theorem dX11_bestBuy_5 : decode cX11_bestBuy 5 = .ok (.ireturn, 1) := by decide +kernel
theorem dX11_bestSell_0 : decode cX11_bestSell 0 = .ok (.aload_n 0, 1) := by decide +kernel
theorem dX11_bestSell_1 : decode cX11_bestSell 1 = .ok (.iconst 0, 1) := by decide +kernel
theorem dX11_bestSell_2 : decode cX11_bestSell 2 = .ok (.invokevirtual 199, 3) := by decide +kernel
theorem dX11_bestSell_5 : decode cX11_bestSell 5 = .ok (.ireturn, 1) := by decide +kernel
theorem dX11_spread_0 : decode cX11_spread 0 = .ok (.aload_n 0, 1) := by decide +kernel
theorem dX11_spread_1 : decode cX11_spread 1 = .ok (.getfield 10, 3) := by decide +kernel
theorem dX11_spread_4 : decode cX11_spread 4 = .ok (.getfield 161, 3) := by decide +kernel
theorem dX11_spread_7 : decode cX11_spread 7 = .ok (.invokevirtual 203, 3) := by decide +kernel
theorem dX11_spread_10 : decode cX11_spread 10 = .ok (.invokestatic 206, 3) := by decide +kernel
theorem dX11_spread_13 : decode cX11_spread 13 = .ok (.ireturn, 1) := by decide +kernel
theorem dX11_spreadBySums_0 : decode cX11_spreadBySums 0 = .ok (.aload_n 0, 1) := by decide +kernel
theorem dX11_spreadBySums_1 : decode cX11_spreadBySums 1 = .ok (.getfield 32, 3) := by decide +kernel
theorem dX11_spreadBySums_4 : decode cX11_spreadBySums 4 = .ok (.aload_n 0, 1) := by decide +kernel
theorem dX11_spreadBySums_5 : decode cX11_spreadBySums 5 = .ok (.getfield 10, 3) := by decide +kernel
theorem dX11_spreadBySums_8 : decode cX11_spreadBySums 8 = .ok (.getfield 161, 3) := by decide +kernel
theorem dX11_spreadBySums_11 : decode cX11_spreadBySums 11 = .ok (.invokevirtual 209, 3) := by decide +kernel
theorem dX11_spreadBySums_14 : decode cX11_spreadBySums 14 = .ok (.aload_n 0, 1) := by decide +kernel
theorem dX11_spreadBySums_15 : decode cX11_spreadBySums 15 = .ok (.getfield 32, 3) := by decide +kernel
theorem dX11_spreadBySums_18 : decode cX11_spreadBySums 18 = .ok (.invokevirtual 213, 3) := by decide +kernel
theorem dX11_spreadBySums_21 : decode cX11_spreadBySums 21 = .ok (.invokestatic 206, 3) := by decide +kernel
theorem dX11_spreadBySums_24 : decode cX11_spreadBySums 24 = .ok (.ireturn, 1) := by decide +kernel
theorem dX11_buyingAt_0 : decode cX11_buyingAt 0 = .ok (.iload_n 1, 1) := by decide +kernel
theorem dX11_buyingAt_1 : decode cX11_buyingAt 1 = .ok (.invokestatic 216, 3) := by decide +kernel
theorem dX11_buyingAt_4 : decode cX11_buyingAt 4 = .ok (.aload_n 0, 1) := by decide +kernel
theorem dX11_buyingAt_5 : decode cX11_buyingAt 5 = .ok (.getfield 10, 3) := by decide +kernel
theorem dX11_buyingAt_8 : decode cX11_buyingAt 8 = .ok (.getfield 161, 3) := by decide +kernel
theorem dX11_buyingAt_11 : decode cX11_buyingAt 11 = .ok (.iconst 1, 1) := by decide +kernel
theorem dX11_buyingAt_12 : decode cX11_buyingAt 12 = .ok (.iload_n 1, 1) := by decide +kernel
theorem dX11_buyingAt_13 : decode cX11_buyingAt 13 = .ok (.invokevirtual 219, 3) := by decide +kernel
theorem dX11_buyingAt_16 : decode cX11_buyingAt 16 = .ok (.ireturn, 1) := by decide +kernel
theorem dX11_sellingAt_0 : decode cX11_sellingAt 0 = .ok (.iload_n 1, 1) := by decide +kernel
theorem dX11_sellingAt_1 : decode cX11_sellingAt 1 = .ok (.invokestatic 216, 3) := by decide +kernel
theorem dX11_sellingAt_4 : decode cX11_sellingAt 4 = .ok (.aload_n 0, 1) := by decide +kernel
theorem dX11_sellingAt_5 : decode cX11_sellingAt 5 = .ok (.getfield 10, 3) := by decide +kernel
theorem dX11_sellingAt_8 : decode cX11_sellingAt 8 = .ok (.getfield 161, 3) := by decide +kernel
theorem dX11_sellingAt_11 : decode cX11_sellingAt 11 = .ok (.iconst 0, 1) := by decide +kernel
theorem dX11_sellingAt_12 : decode cX11_sellingAt 12 = .ok (.iload_n 1, 1) := by decide +kernel
theorem dX11_sellingAt_13 : decode cX11_sellingAt 13 = .ok (.invokevirtual 219, 3) := by decide +kernel
theorem dX11_sellingAt_16 : decode cX11_sellingAt 16 = .ok (.ireturn, 1) := by decide +kernel
theorem dX11_lastPrice_0 : decode cX11_lastPrice 0 = .ok (.aload_n 0, 1) := by decide +kernel
theorem dX11_lastPrice_1 : decode cX11_lastPrice 1 = .ok (.getfield 10, 3) := by decide +kernel
theorem dX11_lastPrice_4 : decode cX11_lastPrice 4 = .ok (.getfield 223, 3) := by decide +kernel
theorem dX11_lastPrice_7 : decode cX11_lastPrice 7 = .ok (.ifCond .ne 13, 3) := by decide +kernel
theorem dX11_lastPrice_10 : decode cX11_lastPrice 10 = .ok (.new 154, 3) := by decide +kernel
theorem dX11_lastPrice_13 : decode cX11_lastPrice 13 = .ok (.dup, 1) := by decide +kernel
theorem dX11_lastPrice_14 : decode cX11_lastPrice 14 = .ok (.ldc 226, 2) := by decide +kernel
theorem dX11_lastPrice_16 : decode cX11_lastPrice 16 = .ok (.invokespecial 158, 3) := by decide +kernel
theorem dX11_lastPrice_19 : decode cX11_lastPrice 19 = .ok (.athrow, 1) := by decide +kernel
theorem dX11_lastPrice_20 : decode cX11_lastPrice 20 = .ok (.aload_n 0, 1) := by decide +kernel
theorem dX11_lastPrice_21 : decode cX11_lastPrice 21 = .ok (.getfield 10, 3) := by decide +kernel
theorem dX11_lastPrice_24 : decode cX11_lastPrice 24 = .ok (.getfield 228, 3) := by decide +kernel
theorem dX11_lastPrice_27 : decode cX11_lastPrice 27 = .ok (.ireturn, 1) := by decide +kernel
theorem dX11_tradeCount_0 : decode cX11_tradeCount 0 = .ok (.aload_n 0, 1) := by decide +kernel
theorem dX11_tradeCount_1 : decode cX11_tradeCount 1 = .ok (.getfield 10, 3) := by decide +kernel
theorem dX11_tradeCount_4 : decode cX11_tradeCount 4 = .ok (.getfield 223, 3) := by decide +kernel
theorem dX11_tradeCount_7 : decode cX11_tradeCount 7 = .ok (.ireturn, 1) := by decide +kernel
theorem dX11_tradedQuantity_0 : decode cX11_tradedQuantity 0 = .ok (.aload_n 0, 1) := by decide +kernel
theorem dX11_tradedQuantity_1 : decode cX11_tradedQuantity 1 = .ok (.getfield 10, 3) := by decide +kernel
theorem dX11_tradedQuantity_4 : decode cX11_tradedQuantity 4 = .ok (.getfield 231, 3) := by decide +kernel
theorem dX11_tradedQuantity_7 : decode cX11_tradedQuantity 7 = .ok (.ireturn, 1) := by decide +kernel
theorem dX11_turnover_0 : decode cX11_turnover 0 = .ok (.aload_n 0, 1) := by decide +kernel
theorem dX11_turnover_1 : decode cX11_turnover 1 = .ok (.getfield 10, 3) := by decide +kernel
theorem dX11_turnover_4 : decode cX11_turnover 4 = .ok (.getfield 234, 3) := by decide +kernel
theorem dX11_turnover_7 : decode cX11_turnover 7 = .ok (.lreturn, 1) := by decide +kernel
theorem dX11_meanPrice_0 : decode cX11_meanPrice 0 = .ok (.aload_n 0, 1) := by decide +kernel
theorem dX11_meanPrice_1 : decode cX11_meanPrice 1 = .ok (.getfield 10, 3) := by decide +kernel
theorem dX11_meanPrice_4 : decode cX11_meanPrice 4 = .ok (.getfield 231, 3) := by decide +kernel
theorem dX11_meanPrice_7 : decode cX11_meanPrice 7 = .ok (.ifCond .ne 13, 3) := by decide +kernel
theorem dX11_meanPrice_10 : decode cX11_meanPrice 10 = .ok (.new 238, 3) := by decide +kernel
theorem dX11_meanPrice_13 : decode cX11_meanPrice 13 = .ok (.dup, 1) := by decide +kernel
theorem dX11_meanPrice_14 : decode cX11_meanPrice 14 = .ok (.ldc 226, 2) := by decide +kernel
theorem dX11_meanPrice_16 : decode cX11_meanPrice 16 = .ok (.invokespecial 240, 3) := by decide +kernel
theorem dX11_meanPrice_19 : decode cX11_meanPrice 19 = .ok (.athrow, 1) := by decide +kernel
theorem dX11_meanPrice_20 : decode cX11_meanPrice 20 = .ok (.aload_n 0, 1) := by decide +kernel
theorem dX11_meanPrice_21 : decode cX11_meanPrice 21 = .ok (.getfield 10, 3) := by decide +kernel
theorem dX11_meanPrice_24 : decode cX11_meanPrice 24 = .ok (.getfield 234, 3) := by decide +kernel
theorem dX11_meanPrice_27 : decode cX11_meanPrice 27 = .ok (.l2d, 1) := by decide +kernel
theorem dX11_meanPrice_28 : decode cX11_meanPrice 28 = .ok (.aload_n 0, 1) := by decide +kernel
theorem dX11_meanPrice_29 : decode cX11_meanPrice 29 = .ok (.getfield 10, 3) := by decide +kernel
theorem dX11_meanPrice_32 : decode cX11_meanPrice 32 = .ok (.getfield 231, 3) := by decide +kernel
theorem dX11_meanPrice_35 : decode cX11_meanPrice 35 = .ok (.i2d, 1) := by decide +kernel
theorem dX11_meanPrice_36 : decode cX11_meanPrice 36 = .ok (.ddiv, 1) := by decide +kernel
theorem dX11_meanPrice_37 : decode cX11_meanPrice 37 = .ok (.dreturn, 1) := by decide +kernel
theorem dX11_buyingShare_0 : decode cX11_buyingShare 0 = .ok (.aload_n 0, 1) := by decide +kernel
theorem dX11_buyingShare_1 : decode cX11_buyingShare 1 = .ok (.getfield 10, 3) := by decide +kernel
theorem dX11_buyingShare_4 : decode cX11_buyingShare 4 = .ok (.getfield 161, 3) := by decide +kernel
theorem dX11_buyingShare_7 : decode cX11_buyingShare 7 = .ok (.getfield 165, 3) := by decide +kernel
theorem dX11_buyingShare_10 : decode cX11_buyingShare 10 = .ok (.ifCond .ne 13, 3) := by decide +kernel
theorem dX11_buyingShare_13 : decode cX11_buyingShare 13 = .ok (.new 238, 3) := by decide +kernel
theorem dX11_buyingShare_16 : decode cX11_buyingShare 16 = .ok (.dup, 1) := by decide +kernel
theorem dX11_buyingShare_17 : decode cX11_buyingShare 17 = .ok (.ldc 241, 2) := by decide +kernel
theorem dX11_buyingShare_19 : decode cX11_buyingShare 19 = .ok (.invokespecial 240, 3) := by decide +kernel
theorem dX11_buyingShare_22 : decode cX11_buyingShare 22 = .ok (.athrow, 1) := by decide +kernel
theorem dX11_buyingShare_23 : decode cX11_buyingShare 23 = .ok (.aload_n 0, 1) := by decide +kernel
theorem dX11_buyingShare_24 : decode cX11_buyingShare 24 = .ok (.getfield 10, 3) := by decide +kernel
theorem dX11_buyingShare_27 : decode cX11_buyingShare 27 = .ok (.getfield 161, 3) := by decide +kernel
theorem dX11_buyingShare_30 : decode cX11_buyingShare 30 = .ok (.invokevirtual 243, 3) := by decide +kernel
theorem dX11_buyingShare_33 : decode cX11_buyingShare 33 = .ok (.i2f, 1) := by decide +kernel
theorem dX11_buyingShare_34 : decode cX11_buyingShare 34 = .ok (.aload_n 0, 1) := by decide +kernel
theorem dX11_buyingShare_35 : decode cX11_buyingShare 35 = .ok (.getfield 10, 3) := by decide +kernel
theorem dX11_buyingShare_38 : decode cX11_buyingShare 38 = .ok (.getfield 161, 3) := by decide +kernel
theorem dX11_buyingShare_41 : decode cX11_buyingShare 41 = .ok (.getfield 165, 3) := by decide +kernel
theorem dX11_buyingShare_44 : decode cX11_buyingShare 44 = .ok (.i2f, 1) := by decide +kernel
theorem dX11_buyingShare_45 : decode cX11_buyingShare 45 = .ok (.fdiv, 1) := by decide +kernel
theorem dX11_buyingShare_46 : decode cX11_buyingShare 46 = .ok (.freturn, 1) := by decide +kernel
theorem dX11_isPoolOpen_0 : decode cX11_isPoolOpen 0 = .ok (.aload_n 0, 1) := by decide +kernel
theorem dX11_isPoolOpen_1 : decode cX11_isPoolOpen 1 = .ok (.getfield 10, 3) := by decide +kernel
theorem dX11_isPoolOpen_4 : decode cX11_isPoolOpen 4 = .ok (.getfield 246, 3) := by decide +kernel
theorem dX11_isPoolOpen_7 : decode cX11_isPoolOpen 7 = .ok (.ireturn, 1) := by decide +kernel
theorem dX11_poolPrice_0 : decode cX11_poolPrice 0 = .ok (.aload_n 0, 1) := by decide +kernel
theorem dX11_poolPrice_1 : decode cX11_poolPrice 1 = .ok (.getfield 10, 3) := by decide +kernel
theorem dX11_poolPrice_4 : decode cX11_poolPrice 4 = .ok (.getfield 161, 3) := by decide +kernel
theorem dX11_poolPrice_7 : decode cX11_poolPrice 7 = .ok (.invokevirtual 249, 3) := by decide +kernel
theorem dX11_poolPrice_10 : decode cX11_poolPrice 10 = .ok (.invokestatic 253, 3) := by decide +kernel
theorem dX11_poolPrice_13 : decode cX11_poolPrice 13 = .ok (.ireturn, 1) := by decide +kernel
theorem dX11_poolPriceBySums_0 : decode cX11_poolPriceBySums 0 = .ok (.aload_n 0, 1) := by decide +kernel
theorem dX11_poolPriceBySums_1 : decode cX11_poolPriceBySums 1 = .ok (.getfield 32, 3) := by decide +kernel
theorem dX11_poolPriceBySums_4 : decode cX11_poolPriceBySums 4 = .ok (.aload_n 0, 1) := by decide +kernel
theorem dX11_poolPriceBySums_5 : decode cX11_poolPriceBySums 5 = .ok (.getfield 10, 3) := by decide +kernel
theorem dX11_poolPriceBySums_8 : decode cX11_poolPriceBySums 8 = .ok (.getfield 161, 3) := by decide +kernel
theorem dX11_poolPriceBySums_11 : decode cX11_poolPriceBySums 11 = .ok (.invokevirtual 209, 3) := by decide +kernel
theorem dX11_poolPriceBySums_14 : decode cX11_poolPriceBySums 14 = .ok (.aload_n 0, 1) := by decide +kernel
theorem dX11_poolPriceBySums_15 : decode cX11_poolPriceBySums 15 = .ok (.getfield 32, 3) := by decide +kernel
theorem dX11_poolPriceBySums_18 : decode cX11_poolPriceBySums 18 = .ok (.invokevirtual 257, 3) := by decide +kernel
theorem dX11_poolPriceBySums_21 : decode cX11_poolPriceBySums 21 = .ok (.invokestatic 253, 3) := by decide +kernel
theorem dX11_poolPriceBySums_24 : decode cX11_poolPriceBySums 24 = .ok (.ireturn, 1) := by decide +kernel
theorem dX11_volumeAt_0 : decode cX11_volumeAt 0 = .ok (.iload_n 1, 1) := by decide +kernel
theorem dX11_volumeAt_1 : decode cX11_volumeAt 1 = .ok (.invokestatic 216, 3) := by decide +kernel
theorem dX11_volumeAt_4 : decode cX11_volumeAt 4 = .ok (.aload_n 0, 1) := by decide +kernel
theorem dX11_volumeAt_5 : decode cX11_volumeAt 5 = .ok (.getfield 10, 3) := by decide +kernel
theorem dX11_volumeAt_8 : decode cX11_volumeAt 8 = .ok (.getfield 161, 3) := by decide +kernel
theorem dX11_volumeAt_11 : decode cX11_volumeAt 11 = .ok (.iload_n 1, 1) := by decide +kernel
theorem dX11_volumeAt_12 : decode cX11_volumeAt 12 = .ok (.invokevirtual 260, 3) := by decide +kernel
theorem dX11_volumeAt_15 : decode cX11_volumeAt 15 = .ok (.ireturn, 1) := by decide +kernel
theorem dX11_time_0 : decode cX11_time 0 = .ok (.aload_n 0, 1) := by decide +kernel
theorem dX11_time_1 : decode cX11_time 1 = .ok (.getfield 10, 3) := by decide +kernel
theorem dX11_time_4 : decode cX11_time 4 = .ok (.getfield 263, 3) := by decide +kernel
theorem dX11_time_7 : decode cX11_time 7 = .ok (.ireturn, 1) := by decide +kernel
theorem dX11_writeOrder_0 : decode cX11_writeOrder 0 = .ok (.aload_n 0, 1) := by decide +kernel
theorem dX11_writeOrder_1 : decode cX11_writeOrder 1 = .ok (.iload_n 1, 1) := by decide +kernel
theorem dX11_writeOrder_2 : decode cX11_writeOrder 2 = .ok (.invokevirtual 178, 3) := by decide +kernel
theorem dX11_writeOrder_5 : decode cX11_writeOrder 5 = .ok (.istore_n 2, 1) := by decide +kernel
theorem dX11_writeOrder_6 : decode cX11_writeOrder 6 = .ok (.aload_n 0, 1) := by decide +kernel
theorem dX11_writeOrder_7 : decode cX11_writeOrder 7 = .ok (.getfield 46, 3) := by decide +kernel
theorem dX11_writeOrder_10 : decode cX11_writeOrder 10 = .ok (.iconst 0, 1) := by decide +kernel
theorem dX11_writeOrder_11 : decode cX11_writeOrder 11 = .ok (.invokevirtual 266, 3) := by decide +kernel
theorem dX11_writeOrder_14 : decode cX11_writeOrder 14 = .ok (.aload_n 0, 1) := by decide +kernel
theorem dX11_writeOrder_15 : decode cX11_writeOrder 15 = .ok (.getfield 46, 3) := by decide +kernel
theorem dX11_writeOrder_18 : decode cX11_writeOrder 18 = .ok (.iload_n 1, 1) := by decide +kernel
theorem dX11_writeOrder_19 : decode cX11_writeOrder 19 = .ok (.invokevirtual 269, 3) := by decide +kernel
theorem dX11_writeOrder_22 : decode cX11_writeOrder 22 = .ok (.pop, 1) := by decide +kernel
theorem dX11_writeOrder_23 : decode cX11_writeOrder 23 = .ok (.aload_n 0, 1) := by decide +kernel
theorem dX11_writeOrder_24 : decode cX11_writeOrder 24 = .ok (.getfield 46, 3) := by decide +kernel
theorem dX11_writeOrder_27 : decode cX11_writeOrder 27 = .ok (.aload_n 0, 1) := by decide +kernel
theorem dX11_writeOrder_28 : decode cX11_writeOrder 28 = .ok (.getfield 10, 3) := by decide +kernel
theorem dX11_writeOrder_31 : decode cX11_writeOrder 31 = .ok (.getfield 161, 3) := by decide +kernel
theorem dX11_writeOrder_34 : decode cX11_writeOrder 34 = .ok (.iload_n 2, 1) := by decide +kernel
theorem dX11_writeOrder_35 : decode cX11_writeOrder 35 = .ok (.invokevirtual 181, 3) := by decide +kernel
theorem dX11_writeOrder_38 : decode cX11_writeOrder 38 = .ok (.ifCond .eq 8, 3) := by decide +kernel
theorem dX11_writeOrder_41 : decode cX11_writeOrder 41 = .ok (.bipush 98, 2) := by decide +kernel
theorem dX11_writeOrder_43 : decode cX11_writeOrder 43 = .ok (.goto 5, 3) := by decide +kernel
theorem dX11_writeOrder_46 : decode cX11_writeOrder 46 = .ok (.bipush 115, 2) := by decide +kernel
theorem dX11_writeOrder_48 : decode cX11_writeOrder 48 = .ok (.invokevirtual 273, 3) := by decide +kernel
theorem dX11_writeOrder_51 : decode cX11_writeOrder 51 = .ok (.pop, 1) := by decide +kernel
theorem dX11_writeOrder_52 : decode cX11_writeOrder 52 = .ok (.aload_n 0, 1) := by decide +kernel
theorem dX11_writeOrder_53 : decode cX11_writeOrder 53 = .ok (.getfield 46, 3) := by decide +kernel
theorem dX11_writeOrder_56 : decode cX11_writeOrder 56 = .ok (.aload_n 0, 1) := by decide +kernel
theorem dX11_writeOrder_57 : decode cX11_writeOrder 57 = .ok (.getfield 10, 3) := by decide +kernel
theorem dX11_writeOrder_60 : decode cX11_writeOrder 60 = .ok (.getfield 161, 3) := by decide +kernel
theorem dX11_writeOrder_63 : decode cX11_writeOrder 63 = .ok (.getfield 188, 3) := by decide +kernel
theorem dX11_writeOrder_66 : decode cX11_writeOrder 66 = .ok (.iload_n 2, 1) := by decide +kernel
theorem dX11_writeOrder_67 : decode cX11_writeOrder 67 = .ok (.invokevirtual 134, 3) := by decide +kernel
theorem dX11_writeOrder_70 : decode cX11_writeOrder 70 = .ok (.invokevirtual 269, 3) := by decide +kernel
theorem dX11_writeOrder_73 : decode cX11_writeOrder 73 = .ok (.pop, 1) := by decide +kernel
theorem dX11_writeOrder_74 : decode cX11_writeOrder 74 = .ok (.aload_n 0, 1) := by decide +kernel
theorem dX11_writeOrder_75 : decode cX11_writeOrder 75 = .ok (.getfield 46, 3) := by decide +kernel
theorem dX11_writeOrder_78 : decode cX11_writeOrder 78 = .ok (.bipush 120, 2) := by decide +kernel
theorem dX11_writeOrder_80 : decode cX11_writeOrder 80 = .ok (.invokevirtual 273, 3) := by decide +kernel
theorem dX11_writeOrder_83 : decode cX11_writeOrder 83 = .ok (.pop, 1) := by decide +kernel
theorem dX11_writeOrder_84 : decode cX11_writeOrder 84 = .ok (.aload_n 0, 1) := by decide +kernel
theorem dX11_writeOrder_85 : decode cX11_writeOrder 85 = .ok (.getfield 46, 3) := by decide +kernel
theorem dX11_writeOrder_88 : decode cX11_writeOrder 88 = .ok (.aload_n 0, 1) := by decide +kernel
theorem dX11_writeOrder_89 : decode cX11_writeOrder 89 = .ok (.getfield 10, 3) := by decide +kernel
theorem dX11_writeOrder_92 : decode cX11_writeOrder 92 = .ok (.getfield 161, 3) := by decide +kernel
theorem dX11_writeOrder_95 : decode cX11_writeOrder 95 = .ok (.getfield 185, 3) := by decide +kernel
theorem dX11_writeOrder_98 : decode cX11_writeOrder 98 = .ok (.iload_n 2, 1) := by decide +kernel
theorem dX11_writeOrder_99 : decode cX11_writeOrder 99 = .ok (.invokevirtual 134, 3) := by decide +kernel
theorem dX11_writeOrder_102 : decode cX11_writeOrder 102 = .ok (.invokevirtual 269, 3) := by decide +kernel
theorem dX11_writeOrder_105 : decode cX11_writeOrder 105 = .ok (.pop, 1) := by decide +kernel
theorem dX11_writeOrder_106 : decode cX11_writeOrder 106 = .ok (.aload_n 0, 1) := by decide +kernel
theorem dX11_writeOrder_107 : decode cX11_writeOrder 107 = .ok (.getfield 46, 3) := by decide +kernel
theorem dX11_writeOrder_110 : decode cX11_writeOrder 110 = .ok (.invokevirtual 276, 3) := by decide +kernel
theorem dX11_writeOrder_113 : decode cX11_writeOrder 113 = .ok (.ireturn, 1) := by decide +kernel
theorem dX11_writeBook_0 : decode cX11_writeBook 0 = .ok (.aload_n 0, 1) := by decide +kernel
theorem dX11_writeBook_1 : decode cX11_writeBook 1 = .ok (.getfield 46, 3) := by decide +kernel
theorem dX11_writeBook_4 : decode cX11_writeBook 4 = .ok (.iconst 0, 1) := by decide +kernel
theorem dX11_writeBook_5 : decode cX11_writeBook 5 = .ok (.invokevirtual 266, 3) := by decide +kernel
theorem dX11_writeBook_8 : decode cX11_writeBook 8 = .ok (.aload_n 0, 1) := by decide +kernel
theorem dX11_writeBook_9 : decode cX11_writeBook 9 = .ok (.iconst 1, 1) := by decide +kernel
theorem dX11_writeBook_10 : decode cX11_writeBook 10 = .ok (.invokevirtual 279, 3) := by decide +kernel
theorem dX11_writeBook_13 : decode cX11_writeBook 13 = .ok (.aload_n 0, 1) := by decide +kernel
theorem dX11_writeBook_14 : decode cX11_writeBook 14 = .ok (.getfield 46, 3) := by decide +kernel
theorem dX11_writeBook_17 : decode cX11_writeBook 17 = .ok (.bipush 47, 2) := by decide +kernel
theorem dX11_writeBook_19 : decode cX11_writeBook 19 = .ok (.invokevirtual 273, 3) := by decide +kernel
theorem dX11_writeBook_22 : decode cX11_writeBook 22 = .ok (.pop, 1) := by decide +kernel
theorem dX11_writeBook_23 : decode cX11_writeBook 23 = .ok (.aload_n 0, 1) := by decide +kernel
theorem dX11_writeBook_24 : decode cX11_writeBook 24 = .ok (.iconst 0, 1) := by decide +kernel
theorem dX11_writeBook_25 : decode cX11_writeBook 25 = .ok (.invokevirtual 279, 3) := by decide +kernel
theorem dX11_writeBook_28 : decode cX11_writeBook 28 = .ok (.aload_n 0, 1) := by decide +kernel
theorem dX11_writeBook_29 : decode cX11_writeBook 29 = .ok (.getfield 46, 3) := by decide +kernel
theorem dX11_writeBook_32 : decode cX11_writeBook 32 = .ok (.invokevirtual 276, 3) := by decide +kernel
theorem dX11_writeBook_35 : decode cX11_writeBook 35 = .ok (.ireturn, 1) := by decide +kernel
theorem dX11_lineAt_0 : decode cX11_lineAt 0 = .ok (.iload_n 1, 1) := by decide +kernel
theorem dX11_lineAt_1 : decode cX11_lineAt 1 = .ok (.ifCond .lt 14, 3) := by decide +kernel
theorem dX11_lineAt_4 : decode cX11_lineAt 4 = .ok (.iload_n 1, 1) := by decide +kernel
theorem dX11_lineAt_5 : decode cX11_lineAt 5 = .ok (.aload_n 0, 1) := by decide +kernel
theorem dX11_lineAt_6 : decode cX11_lineAt 6 = .ok (.getfield 46, 3) := by decide +kernel
theorem dX11_lineAt_9 : decode cX11_lineAt 9 = .ok (.invokevirtual 276, 3) := by decide +kernel
theorem dX11_lineAt_12 : decode cX11_lineAt 12 = .ok (.if_icmp .lt 14, 3) := by decide +kernel
theorem dX11_lineAt_15 : decode cX11_lineAt 15 = .ok (.new 168, 3) := by decide +kernel
theorem dX11_lineAt_18 : decode cX11_lineAt 18 = .ok (.dup, 1) := by decide +kernel
theorem dX11_lineAt_19 : decode cX11_lineAt 19 = .ok (.ldc_w 283, 3) := by decide +kernel
theorem dX11_lineAt_22 : decode cX11_lineAt 22 = .ok (.invokespecial 172, 3) := by decide +kernel
theorem dX11_lineAt_25 : decode cX11_lineAt 25 = .ok (.athrow, 1) := by decide +kernel
theorem dX11_lineAt_26 : decode cX11_lineAt 26 = .ok (.aload_n 0, 1) := by decide +kernel
theorem dX11_lineAt_27 : decode cX11_lineAt 27 = .ok (.getfield 46, 3) := by decide +kernel
theorem dX11_lineAt_30 : decode cX11_lineAt 30 = .ok (.iload_n 1, 1) := by decide +kernel
theorem dX11_lineAt_31 : decode cX11_lineAt 31 = .ok (.invokevirtual 285, 3) := by decide +kernel
theorem dX11_lineAt_34 : decode cX11_lineAt 34 = .ok (.ireturn, 1) := by decide +kernel
theorem dX11_isConsistent_0 : decode cX11_isConsistent 0 = .ok (.aload_n 0, 1) := by decide +kernel
theorem dX11_isConsistent_1 : decode cX11_isConsistent 1 = .ok (.getfield 32, 3) := by decide +kernel
theorem dX11_isConsistent_4 : decode cX11_isConsistent 4 = .ok (.aload_n 0, 1) := by decide +kernel
theorem dX11_isConsistent_5 : decode cX11_isConsistent 5 = .ok (.getfield 10, 3) := by decide +kernel
theorem dX11_isConsistent_8 : decode cX11_isConsistent 8 = .ok (.getfield 161, 3) := by decide +kernel
theorem dX11_isConsistent_11 : decode cX11_isConsistent 11 = .ok (.invokevirtual 209, 3) := by decide +kernel
theorem dX11_isConsistent_14 : decode cX11_isConsistent 14 = .ok (.aload_n 0, 1) := by decide +kernel
theorem dX11_isConsistent_15 : decode cX11_isConsistent 15 = .ok (.getfield 10, 3) := by decide +kernel
theorem dX11_isConsistent_18 : decode cX11_isConsistent 18 = .ok (.getfield 161, 3) := by decide +kernel
theorem dX11_isConsistent_21 : decode cX11_isConsistent 21 = .ok (.invokevirtual 203, 3) := by decide +kernel
theorem dX11_isConsistent_24 : decode cX11_isConsistent 24 = .ok (.aload_n 0, 1) := by decide +kernel
theorem dX11_isConsistent_25 : decode cX11_isConsistent 25 = .ok (.getfield 32, 3) := by decide +kernel
theorem dX11_isConsistent_28 : decode cX11_isConsistent 28 = .ok (.invokevirtual 213, 3) := by decide +kernel
theorem dX11_isConsistent_31 : decode cX11_isConsistent 31 = .ok (.if_icmp .ne 43, 3) := by decide +kernel
theorem dX11_isConsistent_34 : decode cX11_isConsistent 34 = .ok (.aload_n 0, 1) := by decide +kernel
theorem dX11_isConsistent_35 : decode cX11_isConsistent 35 = .ok (.getfield 10, 3) := by decide +kernel
theorem dX11_isConsistent_38 : decode cX11_isConsistent 38 = .ok (.getfield 161, 3) := by decide +kernel
theorem dX11_isConsistent_41 : decode cX11_isConsistent 41 = .ok (.invokevirtual 249, 3) := by decide +kernel
theorem dX11_isConsistent_44 : decode cX11_isConsistent 44 = .ok (.getfield 289, 3) := by decide +kernel
theorem dX11_isConsistent_47 : decode cX11_isConsistent 47 = .ok (.aload_n 0, 1) := by decide +kernel
theorem dX11_isConsistent_48 : decode cX11_isConsistent 48 = .ok (.getfield 32, 3) := by decide +kernel
theorem dX11_isConsistent_51 : decode cX11_isConsistent 51 = .ok (.invokevirtual 257, 3) := by decide +kernel
theorem dX11_isConsistent_54 : decode cX11_isConsistent 54 = .ok (.getfield 289, 3) := by decide +kernel
theorem dX11_isConsistent_57 : decode cX11_isConsistent 57 = .ok (.if_icmp .ne 17, 3) := by decide +kernel
theorem dX11_isConsistent_60 : decode cX11_isConsistent 60 = .ok (.aload_n 0, 1) := by decide +kernel
theorem dX11_isConsistent_61 : decode cX11_isConsistent 61 = .ok (.getfield 10, 3) := by decide +kernel
theorem dX11_isConsistent_64 : decode cX11_isConsistent 64 = .ok (.invokevirtual 294, 3) := by decide +kernel
theorem dX11_isConsistent_67 : decode cX11_isConsistent 67 = .ok (.ifCond .eq 7, 3) := by decide +kernel
theorem dX11_isConsistent_70 : decode cX11_isConsistent 70 = .ok (.iconst 1, 1) := by decide +kernel
theorem dX11_isConsistent_71 : decode cX11_isConsistent 71 = .ok (.goto 4, 3) := by decide +kernel
theorem dX11_isConsistent_74 : decode cX11_isConsistent 74 = .ok (.iconst 0, 1) := by decide +kernel
theorem dX11_isConsistent_75 : decode cX11_isConsistent 75 = .ok (.ireturn, 1) := by decide +kernel
theorem dX11_type_0 : decode cX11_type 0 = .ok (.iload_n 1, 1) := by decide +kernel
theorem dX11_type_1 : decode cX11_type 1 = .ok (.bipush 32, 2) := by decide +kernel
theorem dX11_type_3 : decode cX11_type 3 = .ok (.bipush 126, 2) := by decide +kernel
theorem dX11_type_5 : decode cX11_type 5 = .ok (.invokestatic 87, 3) := by decide +kernel
theorem dX11_type_8 : decode cX11_type 8 = .ok (.ifCond .ne 14, 3) := by decide +kernel
theorem dX11_type_11 : decode cX11_type 11 = .ok (.new 298, 3) := by decide +kernel
theorem dX11_type_14 : decode cX11_type 14 = .ok (.dup, 1) := by decide +kernel
theorem dX11_type_15 : decode cX11_type 15 = .ok (.ldc_w 300, 3) := by decide +kernel
theorem dX11_type_18 : decode cX11_type 18 = .ok (.invokespecial 302, 3) := by decide +kernel
theorem dX11_type_21 : decode cX11_type 21 = .ok (.athrow, 1) := by decide +kernel
theorem dX11_type_22 : decode cX11_type 22 = .ok (.aload_n 0, 1) := by decide +kernel
theorem dX11_type_23 : decode cX11_type 23 = .ok (.getfield 39, 3) := by decide +kernel
theorem dX11_type_26 : decode cX11_type 26 = .ok (.invokevirtual 303, 3) := by decide +kernel
theorem dX11_type_29 : decode cX11_type 29 = .ok (.ifCond .eq 14, 3) := by decide +kernel
theorem dX11_type_32 : decode cX11_type 32 = .ok (.new 194, 3) := by decide +kernel
theorem dX11_type_35 : decode cX11_type 35 = .ok (.dup, 1) := by decide +kernel
theorem dX11_type_36 : decode cX11_type 36 = .ok (.ldc_w 306, 3) := by decide +kernel
theorem dX11_type_39 : decode cX11_type 39 = .ok (.invokespecial 198, 3) := by decide +kernel
theorem dX11_type_42 : decode cX11_type 42 = .ok (.athrow, 1) := by decide +kernel
theorem dX11_type_43 : decode cX11_type 43 = .ok (.aload_n 0, 1) := by decide +kernel
theorem dX11_type_44 : decode cX11_type 44 = .ok (.getfield 39, 3) := by decide +kernel
theorem dX11_type_47 : decode cX11_type 47 = .ok (.iload_n 1, 1) := by decide +kernel
theorem dX11_type_48 : decode cX11_type 48 = .ok (.invokevirtual 308, 3) := by decide +kernel
theorem dX11_type_51 : decode cX11_type 51 = .ok (.ireturn, 1) := by decide +kernel
theorem dX11_execute_0 : decode cX11_execute 0 = .ok (.aload_n 0, 1) := by decide +kernel
theorem dX11_execute_1 : decode cX11_execute 1 = .ok (.getfield 39, 3) := by decide +kernel
theorem dX11_execute_4 : decode cX11_execute 4 = .ok (.invokevirtual 311, 3) := by decide +kernel
theorem dX11_execute_7 : decode cX11_execute 7 = .ok (.istore_n 1, 1) := by decide +kernel
theorem dX11_execute_8 : decode cX11_execute 8 = .ok (.iload_n 1, 1) := by decide +kernel
theorem dX11_execute_9 : decode cX11_execute 9 = .ok (.iconst (-1), 1) := by decide +kernel
theorem dX11_execute_10 : decode cX11_execute 10 = .ok (.if_icmp .ne 32, 3) := by decide +kernel
theorem dX11_execute_13 : decode cX11_execute 13 = .ok (.aload_n 0, 1) := by decide +kernel
theorem dX11_execute_14 : decode cX11_execute 14 = .ok (.aload_n 0, 1) := by decide +kernel
theorem dX11_execute_15 : decode cX11_execute 15 = .ok (.getfield 39, 3) := by decide +kernel
theorem dX11_execute_18 : decode cX11_execute 18 = .ok (.getfield 314, 3) := by decide +kernel
theorem dX11_execute_21 : decode cX11_execute 21 = .ok (.putfield 54, 3) := by decide +kernel
theorem dX11_execute_24 : decode cX11_execute 24 = .ok (.aload_n 0, 1) := by decide +kernel
theorem dX11_execute_25 : decode cX11_execute 25 = .ok (.getfield 39, 3) := by decide +kernel
theorem dX11_execute_28 : decode cX11_execute 28 = .ok (.invokevirtual 317, 3) := by decide +kernel
theorem dX11_execute_31 : decode cX11_execute 31 = .ok (.new 298, 3) := by decide +kernel
theorem dX11_execute_34 : decode cX11_execute 34 = .ok (.dup, 1) := by decide +kernel
theorem dX11_execute_35 : decode cX11_execute 35 = .ok (.ldc_w 320, 3) := by decide +kernel
theorem dX11_execute_38 : decode cX11_execute 38 = .ok (.invokespecial 302, 3) := by decide +kernel
theorem dX11_execute_41 : decode cX11_execute 41 = .ok (.athrow, 1) := by decide +kernel
theorem dX11_execute_42 : decode cX11_execute 42 = .ok (.aload_n 0, 1) := by decide +kernel
theorem dX11_execute_43 : decode cX11_execute 43 = .ok (.getfield 16, 3) := by decide +kernel
theorem dX11_execute_46 : decode cX11_execute 46 = .ok (.aload_n 0, 1) := by decide +kernel
theorem dX11_execute_47 : decode cX11_execute 47 = .ok (.getfield 10, 3) := by decide +kernel
theorem dX11_execute_50 : decode cX11_execute 50 = .ok (.invokevirtual 322, 3) := by decide +kernel
theorem dX11_execute_53 : decode cX11_execute 53 = .ok (.aload_n 0, 1) := by decide +kernel
theorem dX11_execute_54 : decode cX11_execute 54 = .ok (.getfield 39, 3) := by decide +kernel
theorem dX11_execute_57 : decode cX11_execute 57 = .ok (.invokevirtual 325, 3) := by decide +kernel
theorem dX11_execute_60 : decode cX11_execute 60 = .ok (.iconst 0, 1) := by decide +kernel
theorem dX11_execute_61 : decode cX11_execute 61 = .ok (.istore_n 2, 1) := by decide +kernel
theorem dX11_execute_62 : decode cX11_execute 62 = .ok (.iload_n 2, 1) := by decide +kernel
theorem dX11_execute_63 : decode cX11_execute 63 = .ok (.iload_n 1, 1) := by decide +kernel
theorem dX11_execute_64 : decode cX11_execute 64 = .ok (.if_icmp .ge 33, 3) := by decide +kernel
theorem dX11_execute_67 : decode cX11_execute 67 = .ok (.aload_n 0, 1) := by decide +kernel
theorem dX11_execute_68 : decode cX11_execute 68 = .ok (.getfield 39, 3) := by decide +kernel
theorem dX11_execute_71 : decode cX11_execute 71 = .ok (.invokevirtual 328, 3) := by decide +kernel
theorem dX11_execute_74 : decode cX11_execute 74 = .ok (.ifCond .eq 23, 3) := by decide +kernel
theorem dX11_execute_77 : decode cX11_execute 77 = .ok (.aload_n 0, 1) := by decide +kernel
theorem dX11_execute_78 : decode cX11_execute 78 = .ok (.invokevirtual 331, 3) := by decide +kernel
theorem dX11_execute_81 : decode cX11_execute 81 = .ok (.getstatic 334, 3) := by decide +kernel
theorem dX11_execute_84 : decode cX11_execute 84 = .ok (.if_acmp .ne 13, 3) := by decide +kernel
theorem dX11_execute_87 : decode cX11_execute 87 = .ok (.aload_n 0, 1) := by decide +kernel
theorem dX11_execute_88 : decode cX11_execute 88 = .ok (.invokevirtual 340, 3) := by decide +kernel
theorem dX11_execute_91 : decode cX11_execute 91 = .ok (.iinc 2 1, 3) := by decide +kernel
theorem dX11_execute_94 : decode cX11_execute 94 = .ok (.goto (-32), 3) := by decide +kernel
theorem dX11_execute_97 : decode cX11_execute 97 = .ok (.aload_n 0, 1) := by decide +kernel
theorem dX11_execute_98 : decode cX11_execute 98 = .ok (.getfield 39, 3) := by decide +kernel
theorem dX11_execute_101 : decode cX11_execute 101 = .ok (.invokevirtual 317, 3) := by decide +kernel
theorem dX11_execute_104 : decode cX11_execute 104 = .ok (.iload_n 2, 1) := by decide +kernel
theorem dX11_execute_105 : decode cX11_execute 105 = .ok (.iload_n 1, 1) := by decide +kernel
theorem dX11_execute_106 : decode cX11_execute 106 = .ok (.if_icmp .ge 30, 3) := by decide +kernel
theorem dX11_execute_109 : decode cX11_execute 109 = .ok (.aload_n 0, 1) := by decide +kernel
theorem dX11_execute_110 : decode cX11_execute 110 = .ok (.getfield 10, 3) := by decide +kernel
theorem dX11_execute_113 : decode cX11_execute 113 = .ok (.aload_n 0, 1) := by decide +kernel
theorem dX11_execute_114 : decode cX11_execute 114 = .ok (.getfield 16, 3) := by decide +kernel
theorem dX11_execute_117 : decode cX11_execute 117 = .ok (.invokevirtual 322, 3) := by decide +kernel
theorem dX11_execute_120 : decode cX11_execute 120 = .ok (.aload_n 0, 1) := by decide +kernel
theorem dX11_execute_121 : decode cX11_execute 121 = .ok (.iload_n 2, 1) := by decide +kernel
theorem dX11_execute_122 : decode cX11_execute 122 = .ok (.putfield 58, 3) := by decide +kernel
theorem dX11_execute_125 : decode cX11_execute 125 = .ok (.new 194, 3) := by decide +kernel
theorem dX11_execute_128 : decode cX11_execute 128 = .ok (.dup, 1) := by decide +kernel
theorem dX11_execute_129 : decode cX11_execute 129 = .ok (.ldc_w 343, 3) := by decide +kernel
theorem dX11_execute_132 : decode cX11_execute 132 = .ok (.invokespecial 198, 3) := by decide +kernel
theorem dX11_execute_135 : decode cX11_execute 135 = .ok (.athrow, 1) := by decide +kernel
theorem dX11_execute_136 : decode cX11_execute 136 = .ok (.aload_n 0, 1) := by decide +kernel
theorem dX11_execute_137 : decode cX11_execute 137 = .ok (.getfield 25, 3) := by decide +kernel
theorem dX11_execute_140 : decode cX11_execute 140 = .ok (.aload_n 0, 1) := by decide +kernel
theorem dX11_execute_141 : decode cX11_execute 141 = .ok (.getfield 16, 3) := by decide +kernel
theorem dX11_execute_144 : decode cX11_execute 144 = .ok (.invokevirtual 69, 3) := by decide +kernel
theorem dX11_execute_147 : decode cX11_execute 147 = .ok (.iload_n 1, 1) := by decide +kernel
theorem dX11_execute_148 : decode cX11_execute 148 = .ok (.ireturn, 1) := by decide +kernel
theorem dX11_undo_0 : decode cX11_undo 0 = .ok (.aload_n 0, 1) := by decide +kernel
theorem dX11_undo_1 : decode cX11_undo 1 = .ok (.getfield 25, 3) := by decide +kernel
theorem dX11_undo_4 : decode cX11_undo 4 = .ok (.getfield 349, 3) := by decide +kernel
theorem dX11_undo_7 : decode cX11_undo 7 = .ok (.ifCond .ne 14, 3) := by decide +kernel
theorem dX11_undo_10 : decode cX11_undo 10 = .ok (.new 194, 3) := by decide +kernel
theorem dX11_undo_13 : decode cX11_undo 13 = .ok (.dup, 1) := by decide +kernel
theorem dX11_undo_14 : decode cX11_undo 14 = .ok (.ldc_w 352, 3) := by decide +kernel
theorem dX11_undo_17 : decode cX11_undo 17 = .ok (.invokespecial 198, 3) := by decide +kernel
theorem dX11_undo_20 : decode cX11_undo 20 = .ok (.athrow, 1) := by decide +kernel
theorem dX11_undo_21 : decode cX11_undo 21 = .ok (.aload_n 0, 1) := by decide +kernel
theorem dX11_undo_22 : decode cX11_undo 22 = .ok (.getfield 25, 3) := by decide +kernel
theorem dX11_undo_25 : decode cX11_undo 25 = .ok (.aload_n 0, 1) := by decide +kernel
theorem dX11_undo_26 : decode cX11_undo 26 = .ok (.getfield 10, 3) := by decide +kernel
theorem dX11_undo_29 : decode cX11_undo 29 = .ok (.invokevirtual 354, 3) := by decide +kernel
theorem dX11_undo_32 : decode cX11_undo 32 = .ok (.aload_n 0, 1) := by decide +kernel
theorem dX11_undo_33 : decode cX11_undo 33 = .ok (.getfield 25, 3) := by decide +kernel
theorem dX11_undo_36 : decode cX11_undo 36 = .ok (.getfield 349, 3) := by decide +kernel
theorem dX11_undo_39 : decode cX11_undo 39 = .ok (.ireturn, 1) := by decide +kernel
theorem dX11_placeOrder_0 : decode cX11_placeOrder 0 = .ok (.aload_n 0, 1) := by decide +kernel
theorem dX11_placeOrder_1 : decode cX11_placeOrder 1 = .ok (.getfield 10, 3) := by decide +kernel
theorem dX11_placeOrder_4 : decode cX11_placeOrder 4 = .ok (.iload_n 1, 1) := by decide +kernel
theorem dX11_placeOrder_5 : decode cX11_placeOrder 5 = .ok (.iload_n 2, 1) := by decide +kernel
theorem dX11_placeOrder_6 : decode cX11_placeOrder 6 = .ok (.iload_n 3, 1) := by decide +kernel
theorem dX11_placeOrder_7 : decode cX11_placeOrder 7 = .ok (.iload 4, 2) := by decide +kernel
theorem dX11_placeOrder_9 : decode cX11_placeOrder 9 = .ok (.iload 6, 2) := by decide +kernel
theorem dX11_placeOrder_11 : decode cX11_placeOrder 11 = .ok (.aload_n 0, 1) := by decide +kernel
theorem dX11_placeOrder_12 : decode cX11_placeOrder 12 = .ok (.getfield 10, 3) := by decide +kernel
theorem dX11_placeOrder_15 : decode cX11_placeOrder 15 = .ok (.getfield 161, 3) := by decide +kernel
theorem dX11_placeOrder_18 : decode cX11_placeOrder 18 = .ok (.invokevirtual 362, 3) := by decide +kernel
theorem dX11_placeOrder_21 : decode cX11_placeOrder 21 = .ok (.invokevirtual 363, 3) := by decide +kernel
theorem dX11_placeOrder_24 : decode cX11_placeOrder 24 = .ok (.invokestatic 65, 3) := by decide +kernel
theorem dX11_placeOrder_27 : decode cX11_placeOrder 27 = .ok (.aload_n 0, 1) := by decide +kernel
theorem dX11_placeOrder_28 : decode cX11_placeOrder 28 = .ok (.getfield 25, 3) := by decide +kernel
theorem dX11_placeOrder_31 : decode cX11_placeOrder 31 = .ok (.aload_n 0, 1) := by decide +kernel
theorem dX11_placeOrder_32 : decode cX11_placeOrder 32 = .ok (.getfield 10, 3) := by decide +kernel
theorem dX11_placeOrder_35 : decode cX11_placeOrder 35 = .ok (.invokevirtual 69, 3) := by decide +kernel
theorem dX11_placeOrder_38 : decode cX11_placeOrder 38 = .ok (.aload_n 0, 1) := by decide +kernel
theorem dX11_placeOrder_39 : decode cX11_placeOrder 39 = .ok (.getfield 10, 3) := by decide +kernel
theorem dX11_placeOrder_42 : decode cX11_placeOrder 42 = .ok (.iload_n 1, 1) := by decide +kernel
theorem dX11_placeOrder_43 : decode cX11_placeOrder 43 = .ok (.iload_n 2, 1) := by decide +kernel
theorem dX11_placeOrder_44 : decode cX11_placeOrder 44 = .ok (.iload_n 3, 1) := by decide +kernel
theorem dX11_placeOrder_45 : decode cX11_placeOrder 45 = .ok (.iload 4, 2) := by decide +kernel
theorem dX11_placeOrder_47 : decode cX11_placeOrder 47 = .ok (.iload 5, 2) := by decide +kernel
theorem dX11_placeOrder_49 : decode cX11_placeOrder 49 = .ok (.invokevirtual 367, 3) := by decide +kernel
theorem dX11_placeOrder_52 : decode cX11_placeOrder 52 = .ok (.ireturn, 1) := by decide +kernel
theorem dX11_takeAtOnce_0 : decode cX11_takeAtOnce 0 = .ok (.aload_n 0, 1) := by decide +kernel
theorem dX11_takeAtOnce_1 : decode cX11_takeAtOnce 1 = .ok (.getfield 10, 3) := by decide +kernel
theorem dX11_takeAtOnce_4 : decode cX11_takeAtOnce 4 = .ok (.iload_n 1, 1) := by decide +kernel
theorem dX11_takeAtOnce_5 : decode cX11_takeAtOnce 5 = .ok (.iload_n 2, 1) := by decide +kernel
theorem dX11_takeAtOnce_6 : decode cX11_takeAtOnce 6 = .ok (.iload_n 3, 1) := by decide +kernel
theorem dX11_takeAtOnce_7 : decode cX11_takeAtOnce 7 = .ok (.iload 4, 2) := by decide +kernel
theorem dX11_takeAtOnce_9 : decode cX11_takeAtOnce 9 = .ok (.iconst 1, 1) := by decide +kernel
theorem dX11_takeAtOnce_10 : decode cX11_takeAtOnce 10 = .ok (.aload_n 0, 1) := by decide +kernel
theorem dX11_takeAtOnce_11 : decode cX11_takeAtOnce 11 = .ok (.getfield 10, 3) := by decide +kernel
theorem dX11_takeAtOnce_14 : decode cX11_takeAtOnce 14 = .ok (.getfield 246, 3) := by decide +kernel
theorem dX11_takeAtOnce_17 : decode cX11_takeAtOnce 17 = .ok (.invokevirtual 363, 3) := by decide +kernel
theorem dX11_takeAtOnce_20 : decode cX11_takeAtOnce 20 = .ok (.invokestatic 65, 3) := by decide +kernel
theorem dX11_takeAtOnce_23 : decode cX11_takeAtOnce 23 = .ok (.aload_n 0, 1) := by decide +kernel
theorem dX11_takeAtOnce_24 : decode cX11_takeAtOnce 24 = .ok (.getfield 25, 3) := by decide +kernel
theorem dX11_takeAtOnce_27 : decode cX11_takeAtOnce 27 = .ok (.aload_n 0, 1) := by decide +kernel
theorem dX11_takeAtOnce_28 : decode cX11_takeAtOnce 28 = .ok (.getfield 10, 3) := by decide +kernel
theorem dX11_takeAtOnce_31 : decode cX11_takeAtOnce 31 = .ok (.invokevirtual 69, 3) := by decide +kernel
theorem dX11_takeAtOnce_34 : decode cX11_takeAtOnce 34 = .ok (.aload_n 0, 1) := by decide +kernel
theorem dX11_takeAtOnce_35 : decode cX11_takeAtOnce 35 = .ok (.getfield 10, 3) := by decide +kernel
theorem dX11_takeAtOnce_38 : decode cX11_takeAtOnce 38 = .ok (.iload_n 1, 1) := by decide +kernel
theorem dX11_takeAtOnce_39 : decode cX11_takeAtOnce 39 = .ok (.iload_n 2, 1) := by decide +kernel
theorem dX11_takeAtOnce_40 : decode cX11_takeAtOnce 40 = .ok (.iload_n 3, 1) := by decide +kernel
theorem dX11_takeAtOnce_41 : decode cX11_takeAtOnce 41 = .ok (.iload 4, 2) := by decide +kernel
theorem dX11_takeAtOnce_43 : decode cX11_takeAtOnce 43 = .ok (.invokevirtual 371, 3) := by decide +kernel
theorem dX11_takeAtOnce_46 : decode cX11_takeAtOnce 46 = .ok (.ireturn, 1) := by decide +kernel
theorem dX11_isWithin_0 : decode cX11_isWithin 0 = .ok (.iload_n 0, 1) := by decide +kernel
theorem dX11_isWithin_1 : decode cX11_isWithin 1 = .ok (.iload_n 1, 1) := by decide +kernel
theorem dX11_isWithin_2 : decode cX11_isWithin 2 = .ok (.if_icmp .lt 12, 3) := by decide +kernel
theorem dX11_isWithin_5 : decode cX11_isWithin 5 = .ok (.iload_n 0, 1) := by decide +kernel
theorem dX11_isWithin_6 : decode cX11_isWithin 6 = .ok (.iload_n 2, 1) := by decide +kernel
theorem dX11_isWithin_7 : decode cX11_isWithin 7 = .ok (.if_icmp .gt 7, 3) := by decide +kernel
theorem dX11_isWithin_10 : decode cX11_isWithin 10 = .ok (.iconst 1, 1) := by decide +kernel
theorem dX11_isWithin_11 : decode cX11_isWithin 11 = .ok (.goto 4, 3) := by decide +kernel
theorem dX11_isWithin_14 : decode cX11_isWithin 14 = .ok (.iconst 0, 1) := by decide +kernel
theorem dX11_isWithin_15 : decode cX11_isWithin 15 = .ok (.ireturn, 1) := by decide +kernel
theorem dX11_refuse_0 : decode cX11_refuse 0 = .ok (.aload_n 0, 1) := by decide +kernel
theorem dX11_refuse_1 : decode cX11_refuse 1 = .ok (.getstatic 374, 3) := by decide +kernel
theorem dX11_refuse_4 : decode cX11_refuse 4 = .ok (.if_acmp .ne 14, 3) := by decide +kernel
theorem dX11_refuse_7 : decode cX11_refuse 7 = .ok (.new 168, 3) := by decide +kernel
theorem dX11_refuse_10 : decode cX11_refuse 10 = .ok (.dup, 1) := by decide +kernel
theorem dX11_refuse_11 : decode cX11_refuse 11 = .ok (.ldc_w 377, 3) := by decide +kernel
theorem dX11_refuse_14 : decode cX11_refuse 14 = .ok (.invokespecial 172, 3) := by decide +kernel
theorem dX11_refuse_17 : decode cX11_refuse 17 = .ok (.athrow, 1) := by decide +kernel
theorem dX11_refuse_18 : decode cX11_refuse 18 = .ok (.aload_n 0, 1) := by decide +kernel
theorem dX11_refuse_19 : decode cX11_refuse 19 = .ok (.getstatic 379, 3) := by decide +kernel
theorem dX11_refuse_22 : decode cX11_refuse 22 = .ok (.if_acmp .ne 14, 3) := by decide +kernel
theorem dX11_refuse_25 : decode cX11_refuse 25 = .ok (.new 298, 3) := by decide +kernel
theorem dX11_refuse_28 : decode cX11_refuse 28 = .ok (.dup, 1) := by decide +kernel
theorem dX11_refuse_29 : decode cX11_refuse 29 = .ok (.ldc_w 382, 3) := by decide +kernel
theorem dX11_refuse_32 : decode cX11_refuse 32 = .ok (.invokespecial 302, 3) := by decide +kernel
theorem dX11_refuse_35 : decode cX11_refuse 35 = .ok (.athrow, 1) := by decide +kernel
theorem dX11_refuse_36 : decode cX11_refuse 36 = .ok (.aload_n 0, 1) := by decide +kernel
theorem dX11_refuse_37 : decode cX11_refuse 37 = .ok (.getstatic 384, 3) := by decide +kernel
theorem dX11_refuse_40 : decode cX11_refuse 40 = .ok (.if_acmp .ne 14, 3) := by decide +kernel
theorem dX11_refuse_43 : decode cX11_refuse 43 = .ok (.new 194, 3) := by decide +kernel
theorem dX11_refuse_46 : decode cX11_refuse 46 = .ok (.dup, 1) := by decide +kernel
theorem dX11_refuse_47 : decode cX11_refuse 47 = .ok (.ldc_w 387, 3) := by decide +kernel
theorem dX11_refuse_50 : decode cX11_refuse 50 = .ok (.invokespecial 198, 3) := by decide +kernel
theorem dX11_refuse_53 : decode cX11_refuse 53 = .ok (.athrow, 1) := by decide +kernel
theorem dX11_refuse_54 : decode cX11_refuse 54 = .ok (.aload_n 0, 1) := by decide +kernel
theorem dX11_refuse_55 : decode cX11_refuse 55 = .ok (.getstatic 389, 3) := by decide +kernel
theorem dX11_refuse_58 : decode cX11_refuse 58 = .ok (.if_acmp .ne 14, 3) := by decide +kernel
theorem dX11_refuse_61 : decode cX11_refuse 61 = .ok (.new 392, 3) := by decide +kernel
theorem dX11_refuse_64 : decode cX11_refuse 64 = .ok (.dup, 1) := by decide +kernel
theorem dX11_refuse_65 : decode cX11_refuse 65 = .ok (.ldc_w 394, 3) := by decide +kernel
theorem dX11_refuse_68 : decode cX11_refuse 68 = .ok (.invokespecial 396, 3) := by decide +kernel
theorem dX11_refuse_71 : decode cX11_refuse 71 = .ok (.athrow, 1) := by decide +kernel
theorem dX11_refuse_72 : decode cX11_refuse 72 = .ok (.aload_n 0, 1) := by decide +kernel
theorem dX11_refuse_73 : decode cX11_refuse 73 = .ok (.getstatic 397, 3) := by decide +kernel
theorem dX11_refuse_76 : decode cX11_refuse 76 = .ok (.if_acmp .ne 14, 3) := by decide +kernel
theorem dX11_refuse_79 : decode cX11_refuse 79 = .ok (.new 154, 3) := by decide +kernel
theorem dX11_refuse_82 : decode cX11_refuse 82 = .ok (.dup, 1) := by decide +kernel
theorem dX11_refuse_83 : decode cX11_refuse 83 = .ok (.ldc_w 400, 3) := by decide +kernel
theorem dX11_refuse_86 : decode cX11_refuse 86 = .ok (.invokespecial 158, 3) := by decide +kernel
theorem dX11_refuse_89 : decode cX11_refuse 89 = .ok (.athrow, 1) := by decide +kernel
theorem dX11_refuse_90 : decode cX11_refuse 90 = .ok (.return_, 1) := by decide +kernel
theorem dX11_requireStall_0 : decode cX11_requireStall 0 = .ok (.aload_n 0, 1) := by decide +kernel
theorem dX11_requireStall_1 : decode cX11_requireStall 1 = .ok (.getfield 10, 3) := by decide +kernel
theorem dX11_requireStall_4 : decode cX11_requireStall 4 = .ok (.getfield 73, 3) := by decide +kernel
theorem dX11_requireStall_7 : decode cX11_requireStall 7 = .ok (.iload_n 1, 1) := by decide +kernel
theorem dX11_requireStall_8 : decode cX11_requireStall 8 = .ok (.invokevirtual 402, 3) := by decide +kernel
theorem dX11_requireStall_11 : decode cX11_requireStall 11 = .ok (.ifCond .ne 14, 3) := by decide +kernel
theorem dX11_requireStall_14 : decode cX11_requireStall 14 = .ok (.new 168, 3) := by decide +kernel
theorem dX11_requireStall_17 : decode cX11_requireStall 17 = .ok (.dup, 1) := by decide +kernel
theorem dX11_requireStall_18 : decode cX11_requireStall 18 = .ok (.ldc_w 377, 3) := by decide +kernel
theorem dX11_requireStall_21 : decode cX11_requireStall 21 = .ok (.invokespecial 172, 3) := by decide +kernel
theorem dX11_requireStall_24 : decode cX11_requireStall 24 = .ok (.athrow, 1) := by decide +kernel
theorem dX11_requireStall_25 : decode cX11_requireStall 25 = .ok (.return_, 1) := by decide +kernel
theorem dX11_requireSlot_0 : decode cX11_requireSlot 0 = .ok (.aload_n 0, 1) := by decide +kernel
theorem dX11_requireSlot_1 : decode cX11_requireSlot 1 = .ok (.getfield 10, 3) := by decide +kernel
theorem dX11_requireSlot_4 : decode cX11_requireSlot 4 = .ok (.getfield 161, 3) := by decide +kernel
theorem dX11_requireSlot_7 : decode cX11_requireSlot 7 = .ok (.iload_n 1, 1) := by decide +kernel
theorem dX11_requireSlot_8 : decode cX11_requireSlot 8 = .ok (.invokevirtual 405, 3) := by decide +kernel
theorem dX11_requireSlot_11 : decode cX11_requireSlot 11 = .ok (.istore_n 2, 1) := by decide +kernel
theorem dX11_requireSlot_12 : decode cX11_requireSlot 12 = .ok (.iload_n 2, 1) := by decide +kernel
theorem dX11_requireSlot_13 : decode cX11_requireSlot 13 = .ok (.iconst (-1), 1) := by decide +kernel
theorem dX11_requireSlot_14 : decode cX11_requireSlot 14 = .ok (.if_icmp .ne 14, 3) := by decide +kernel
theorem dX11_requireSlot_17 : decode cX11_requireSlot 17 = .ok (.new 154, 3) := by decide +kernel
theorem dX11_requireSlot_20 : decode cX11_requireSlot 20 = .ok (.dup, 1) := by decide +kernel
theorem dX11_requireSlot_21 : decode cX11_requireSlot 21 = .ok (.ldc_w 400, 3) := by decide +kernel
theorem dX11_requireSlot_24 : decode cX11_requireSlot 24 = .ok (.invokespecial 158, 3) := by decide +kernel
theorem dX11_requireSlot_27 : decode cX11_requireSlot 27 = .ok (.athrow, 1) := by decide +kernel
theorem dX11_requireSlot_28 : decode cX11_requireSlot 28 = .ok (.iload_n 2, 1) := by decide +kernel
theorem dX11_requireSlot_29 : decode cX11_requireSlot 29 = .ok (.ireturn, 1) := by decide +kernel
theorem dX11_requirePrice_0 : decode cX11_requirePrice 0 = .ok (.iload_n 0, 1) := by decide +kernel
theorem dX11_requirePrice_1 : decode cX11_requirePrice 1 = .ok (.iconst 1, 1) := by decide +kernel
theorem dX11_requirePrice_2 : decode cX11_requirePrice 2 = .ok (.bipush 99, 2) := by decide +kernel
theorem dX11_requirePrice_4 : decode cX11_requirePrice 4 = .ok (.invokestatic 87, 3) := by decide +kernel
theorem dX11_requirePrice_7 : decode cX11_requirePrice 7 = .ok (.ifCond .ne 14, 3) := by decide +kernel
theorem dX11_requirePrice_10 : decode cX11_requirePrice 10 = .ok (.new 298, 3) := by decide +kernel
theorem dX11_requirePrice_13 : decode cX11_requirePrice 13 = .ok (.dup, 1) := by decide +kernel
theorem dX11_requirePrice_14 : decode cX11_requirePrice 14 = .ok (.ldc_w 408, 3) := by decide +kernel
theorem dX11_requirePrice_17 : decode cX11_requirePrice 17 = .ok (.invokespecial 302, 3) := by decide +kernel
theorem dX11_requirePrice_20 : decode cX11_requirePrice 20 = .ok (.athrow, 1) := by decide +kernel
theorem dX11_requirePrice_21 : decode cX11_requirePrice 21 = .ok (.return_, 1) := by decide +kernel
theorem dX11_requireSpread_0 : decode cX11_requireSpread 0 = .ok (.iload_n 0, 1) := by decide +kernel
theorem dX11_requireSpread_1 : decode cX11_requireSpread 1 = .ok (.sipush 1000, 3) := by decide +kernel
theorem dX11_requireSpread_4 : decode cX11_requireSpread 4 = .ok (.if_icmp .ne 14, 3) := by decide +kernel
theorem dX11_requireSpread_7 : decode cX11_requireSpread 7 = .ok (.new 154, 3) := by decide +kernel
theorem dX11_requireSpread_10 : decode cX11_requireSpread 10 = .ok (.dup, 1) := by decide +kernel
theorem dX11_requireSpread_11 : decode cX11_requireSpread 11 = .ok (.ldc_w 410, 3) := by decide +kernel
theorem dX11_requireSpread_14 : decode cX11_requireSpread 14 = .ok (.invokespecial 158, 3) := by decide +kernel
theorem dX11_requireSpread_17 : decode cX11_requireSpread 17 = .ok (.athrow, 1) := by decide +kernel
theorem dX11_requireSpread_18 : decode cX11_requireSpread 18 = .ok (.iload_n 0, 1) := by decide +kernel
theorem dX11_requireSpread_19 : decode cX11_requireSpread 19 = .ok (.ireturn, 1) := by decide +kernel
theorem dX11_requirePoolPrice_0 : decode cX11_requirePoolPrice 0 = .ok (.aload_n 0, 1) := by decide +kernel
theorem dX11_requirePoolPrice_1 : decode cX11_requirePoolPrice 1 = .ok (.getfield 289, 3) := by decide +kernel
theorem dX11_requirePoolPrice_4 : decode cX11_requirePoolPrice 4 = .ok (.iconst (-1), 1) := by decide +kernel
theorem dX11_requirePoolPrice_5 : decode cX11_requirePoolPrice 5 = .ok (.if_icmp .ne 14, 3) := by decide +kernel
theorem dX11_requirePoolPrice_8 : decode cX11_requirePoolPrice 8 = .ok (.new 154, 3) := by decide +kernel
theorem dX11_requirePoolPrice_11 : decode cX11_requirePoolPrice 11 = .ok (.dup, 1) := by decide +kernel
theorem dX11_requirePoolPrice_12 : decode cX11_requirePoolPrice 12 = .ok (.ldc_w 412, 3) := by decide +kernel
theorem dX11_requirePoolPrice_15 : decode cX11_requirePoolPrice 15 = .ok (.invokespecial 158, 3) := by decide +kernel
theorem dX11_requirePoolPrice_18 : decode cX11_requirePoolPrice 18 = .ok (.athrow, 1) := by decide +kernel
theorem dX11_requirePoolPrice_19 : decode cX11_requirePoolPrice 19 = .ok (.aload_n 0, 1) := by decide +kernel
theorem dX11_requirePoolPrice_20 : decode cX11_requirePoolPrice 20 = .ok (.getfield 289, 3) := by decide +kernel
theorem dX11_requirePoolPrice_23 : decode cX11_requirePoolPrice 23 = .ok (.ireturn, 1) := by decide +kernel
theorem dX11_bestOrder_0 : decode cX11_bestOrder 0 = .ok (.aload_n 0, 1) := by decide +kernel
theorem dX11_bestOrder_1 : decode cX11_bestOrder 1 = .ok (.getfield 10, 3) := by decide +kernel
theorem dX11_bestOrder_4 : decode cX11_bestOrder 4 = .ok (.getfield 161, 3) := by decide +kernel
theorem dX11_bestOrder_7 : decode cX11_bestOrder 7 = .ok (.iload_n 1, 1) := by decide +kernel
theorem dX11_bestOrder_8 : decode cX11_bestOrder 8 = .ok (.invokevirtual 414, 3) := by decide +kernel
theorem dX11_bestOrder_11 : decode cX11_bestOrder 11 = .ok (.istore_n 2, 1) := by decide +kernel
theorem dX11_bestOrder_12 : decode cX11_bestOrder 12 = .ok (.iload_n 2, 1) := by decide +kernel
theorem dX11_bestOrder_13 : decode cX11_bestOrder 13 = .ok (.iconst (-1), 1) := by decide +kernel
theorem dX11_bestOrder_14 : decode cX11_bestOrder 14 = .ok (.if_icmp .ne 14, 3) := by decide +kernel
theorem dX11_bestOrder_17 : decode cX11_bestOrder 17 = .ok (.new 154, 3) := by decide +kernel
theorem dX11_bestOrder_20 : decode cX11_bestOrder 20 = .ok (.dup, 1) := by decide +kernel
theorem dX11_bestOrder_21 : decode cX11_bestOrder 21 = .ok (.ldc_w 417, 3) := by decide +kernel
theorem dX11_bestOrder_24 : decode cX11_bestOrder 24 = .ok (.invokespecial 158, 3) := by decide +kernel
theorem dX11_bestOrder_27 : decode cX11_bestOrder 27 = .ok (.athrow, 1) := by decide +kernel
theorem dX11_bestOrder_28 : decode cX11_bestOrder 28 = .ok (.aload_n 0, 1) := by decide +kernel
theorem dX11_bestOrder_29 : decode cX11_bestOrder 29 = .ok (.getfield 10, 3) := by decide +kernel
theorem dX11_bestOrder_32 : decode cX11_bestOrder 32 = .ok (.getfield 161, 3) := by decide +kernel
theorem dX11_bestOrder_35 : decode cX11_bestOrder 35 = .ok (.getfield 173, 3) := by decide +kernel
theorem dX11_bestOrder_38 : decode cX11_bestOrder 38 = .ok (.iload_n 2, 1) := by decide +kernel
theorem dX11_bestOrder_39 : decode cX11_bestOrder 39 = .ok (.invokevirtual 134, 3) := by decide +kernel
theorem dX11_bestOrder_42 : decode cX11_bestOrder 42 = .ok (.ireturn, 1) := by decide +kernel
theorem dX11_appendBest_0 : decode cX11_appendBest 0 = .ok (.aload_n 0, 1) := by decide +kernel
theorem dX11_appendBest_1 : decode cX11_appendBest 1 = .ok (.getfield 10, 3) := by decide +kernel
theorem dX11_appendBest_4 : decode cX11_appendBest 4 = .ok (.getfield 161, 3) := by decide +kernel
theorem dX11_appendBest_7 : decode cX11_appendBest 7 = .ok (.iload_n 1, 1) := by decide +kernel
theorem dX11_appendBest_8 : decode cX11_appendBest 8 = .ok (.invokevirtual 414, 3) := by decide +kernel
theorem dX11_appendBest_11 : decode cX11_appendBest 11 = .ok (.istore_n 2, 1) := by decide +kernel
theorem dX11_appendBest_12 : decode cX11_appendBest 12 = .ok (.iload_n 2, 1) := by decide +kernel
theorem dX11_appendBest_13 : decode cX11_appendBest 13 = .ok (.iconst (-1), 1) := by decide +kernel
theorem dX11_appendBest_14 : decode cX11_appendBest 14 = .ok (.if_icmp .ne 14, 3) := by decide +kernel
theorem dX11_appendBest_17 : decode cX11_appendBest 17 = .ok (.aload_n 0, 1) := by decide +kernel
theorem dX11_appendBest_18 : decode cX11_appendBest 18 = .ok (.getfield 46, 3) := by decide +kernel
theorem dX11_appendBest_21 : decode cX11_appendBest 21 = .ok (.bipush 45, 2) := by decide +kernel
theorem dX11_appendBest_23 : decode cX11_appendBest 23 = .ok (.invokevirtual 273, 3) := by decide +kernel
theorem dX11_appendBest_26 : decode cX11_appendBest 26 = .ok (.pop, 1) := by decide +kernel
theorem dX11_appendBest_27 : decode cX11_appendBest 27 = .ok (.return_, 1) := by decide +kernel
theorem dX11_appendBest_28 : decode cX11_appendBest 28 = .ok (.aload_n 0, 1) := by decide +kernel
theorem dX11_appendBest_29 : decode cX11_appendBest 29 = .ok (.getfield 10, 3) := by decide +kernel
theorem dX11_appendBest_32 : decode cX11_appendBest 32 = .ok (.getfield 161, 3) := by decide +kernel
theorem dX11_appendBest_35 : decode cX11_appendBest 35 = .ok (.getfield 185, 3) := by decide +kernel
theorem dX11_appendBest_38 : decode cX11_appendBest 38 = .ok (.iload_n 2, 1) := by decide +kernel
theorem dX11_appendBest_39 : decode cX11_appendBest 39 = .ok (.invokevirtual 134, 3) := by decide +kernel
theorem dX11_appendBest_42 : decode cX11_appendBest 42 = .ok (.istore_n 3, 1) := by decide +kernel
theorem dX11_appendBest_43 : decode cX11_appendBest 43 = .ok (.aload_n 0, 1) := by decide +kernel
theorem dX11_appendBest_44 : decode cX11_appendBest 44 = .ok (.getfield 46, 3) := by decide +kernel
theorem dX11_appendBest_47 : decode cX11_appendBest 47 = .ok (.aload_n 0, 1) := by decide +kernel
theorem dX11_appendBest_48 : decode cX11_appendBest 48 = .ok (.getfield 10, 3) := by decide +kernel
theorem dX11_appendBest_51 : decode cX11_appendBest 51 = .ok (.getfield 161, 3) := by decide +kernel
theorem dX11_appendBest_54 : decode cX11_appendBest 54 = .ok (.iload_n 1, 1) := by decide +kernel
theorem dX11_appendBest_55 : decode cX11_appendBest 55 = .ok (.iload_n 3, 1) := by decide +kernel
theorem dX11_appendBest_56 : decode cX11_appendBest 56 = .ok (.invokevirtual 219, 3) := by decide +kernel
theorem dX11_appendBest_59 : decode cX11_appendBest 59 = .ok (.invokevirtual 269, 3) := by decide +kernel
theorem dX11_appendBest_62 : decode cX11_appendBest 62 = .ok (.pop, 1) := by decide +kernel
theorem dX11_appendBest_63 : decode cX11_appendBest 63 = .ok (.aload_n 0, 1) := by decide +kernel
theorem dX11_appendBest_64 : decode cX11_appendBest 64 = .ok (.getfield 46, 3) := by decide +kernel
theorem dX11_appendBest_67 : decode cX11_appendBest 67 = .ok (.bipush 120, 2) := by decide +kernel
theorem dX11_appendBest_69 : decode cX11_appendBest 69 = .ok (.invokevirtual 273, 3) := by decide +kernel
theorem dX11_appendBest_72 : decode cX11_appendBest 72 = .ok (.pop, 1) := by decide +kernel
theorem dX11_appendBest_73 : decode cX11_appendBest 73 = .ok (.aload_n 0, 1) := by decide +kernel
theorem dX11_appendBest_74 : decode cX11_appendBest 74 = .ok (.getfield 46, 3) := by decide +kernel
theorem dX11_appendBest_77 : decode cX11_appendBest 77 = .ok (.iload_n 3, 1) := by decide +kernel
theorem dX11_appendBest_78 : decode cX11_appendBest 78 = .ok (.invokevirtual 269, 3) := by decide +kernel
theorem dX11_appendBest_81 : decode cX11_appendBest 81 = .ok (.pop, 1) := by decide +kernel
theorem dX11_appendBest_82 : decode cX11_appendBest 82 = .ok (.return_, 1) := by decide +kernel
theorem dX11_commandFault_0 : decode cX11_commandFault 0 = .ok (.aload_n 0, 1) := by decide +kernel
theorem dX11_commandFault_1 : decode cX11_commandFault 1 = .ok (.getfield 39, 3) := by decide +kernel
theorem dX11_commandFault_4 : decode cX11_commandFault 4 = .ok (.getfield 419, 3) := by decide +kernel
theorem dX11_commandFault_7 : decode cX11_commandFault 7 = .ok (.iconst 0, 1) := by decide +kernel
theorem dX11_commandFault_8 : decode cX11_commandFault 8 = .ok (.invokevirtual 134, 3) := by decide +kernel
theorem dX11_commandFault_11 : decode cX11_commandFault 11 = .ok (.istore_n 1, 1) := by decide +kernel
theorem dX11_commandFault_12 : decode cX11_commandFault 12 = .ok (.aload_n 0, 1) := by decide +kernel
theorem dX11_commandFault_13 : decode cX11_commandFault 13 = .ok (.getfield 39, 3) := by decide +kernel
theorem dX11_commandFault_16 : decode cX11_commandFault 16 = .ok (.getfield 419, 3) := by decide +kernel
theorem dX11_commandFault_19 : decode cX11_commandFault 19 = .ok (.iconst 1, 1) := by decide +kernel
theorem dX11_commandFault_20 : decode cX11_commandFault 20 = .ok (.invokevirtual 134, 3) := by decide +kernel
theorem dX11_commandFault_23 : decode cX11_commandFault 23 = .ok (.istore_n 2, 1) := by decide +kernel
theorem dX11_commandFault_24 : decode cX11_commandFault 24 = .ok (.aload_n 0, 1) := by decide +kernel
theorem dX11_commandFault_25 : decode cX11_commandFault 25 = .ok (.getfield 39, 3) := by decide +kernel
theorem dX11_commandFault_28 : decode cX11_commandFault 28 = .ok (.getfield 419, 3) := by decide +kernel
theorem dX11_commandFault_31 : decode cX11_commandFault 31 = .ok (.iconst 2, 1) := by decide +kernel
theorem dX11_commandFault_32 : decode cX11_commandFault 32 = .ok (.invokevirtual 134, 3) := by decide +kernel
theorem dX11_commandFault_35 : decode cX11_commandFault 35 = .ok (.istore_n 3, 1) := by decide +kernel
theorem dX11_commandFault_36 : decode cX11_commandFault 36 = .ok (.getstatic 422, 3) := by decide +kernel
theorem dX11_commandFault_39 : decode cX11_commandFault 39 = .ok (.aload_n 0, 1) := by decide +kernel
theorem dX11_commandFault_40 : decode cX11_commandFault 40 = .ok (.getfield 39, 3) := by decide +kernel
theorem dX11_commandFault_43 : decode cX11_commandFault 43 = .ok (.getfield 428, 3) := by decide +kernel
theorem dX11_commandFault_46 : decode cX11_commandFault 46 = .ok (.invokevirtual 432, 3) := by decide +kernel
theorem dX11_commandFault_49 : decode cX11_commandFault 49 = .ok (.iaload, 1) := by decide +kernel
theorem dX11_commandFault_50 : decode cX11_commandFault 50 = .ok (.tableswitch 120 1 6 #[38, 48, 71, 94, 103, 112], 38) := by decide +kernel
theorem dX11_commandFault_88 : decode cX11_commandFault 88 = .ok (.aload_n 0, 1) := by decide +kernel
theorem dX11_commandFault_89 : decode cX11_commandFault 89 = .ok (.getfield 10, 3) := by decide +kernel
theorem dX11_commandFault_92 : decode cX11_commandFault 92 = .ok (.iload_n 1, 1) := by decide +kernel
theorem dX11_commandFault_93 : decode cX11_commandFault 93 = .ok (.iload_n 2, 1) := by decide +kernel
theorem dX11_commandFault_94 : decode cX11_commandFault 94 = .ok (.invokevirtual 61, 3) := by decide +kernel
theorem dX11_commandFault_97 : decode cX11_commandFault 97 = .ok (.areturn, 1) := by decide +kernel
theorem dX11_commandFault_98 : decode cX11_commandFault 98 = .ok (.aload_n 0, 1) := by decide +kernel
theorem dX11_commandFault_99 : decode cX11_commandFault 99 = .ok (.getfield 10, 3) := by decide +kernel
theorem dX11_commandFault_102 : decode cX11_commandFault 102 = .ok (.iconst 1, 1) := by decide +kernel
theorem dX11_commandFault_103 : decode cX11_commandFault 103 = .ok (.iload_n 1, 1) := by decide +kernel
theorem dX11_commandFault_104 : decode cX11_commandFault 104 = .ok (.iload_n 2, 1) := by decide +kernel
theorem dX11_commandFault_105 : decode cX11_commandFault 105 = .ok (.iload_n 3, 1) := by decide +kernel
theorem dX11_commandFault_106 : decode cX11_commandFault 106 = .ok (.iconst 1, 1) := by decide +kernel
theorem dX11_commandFault_107 : decode cX11_commandFault 107 = .ok (.aload_n 0, 1) := by decide +kernel
theorem dX11_commandFault_108 : decode cX11_commandFault 108 = .ok (.getfield 10, 3) := by decide +kernel
theorem dX11_commandFault_111 : decode cX11_commandFault 111 = .ok (.getfield 161, 3) := by decide +kernel
theorem dX11_commandFault_114 : decode cX11_commandFault 114 = .ok (.invokevirtual 362, 3) := by decide +kernel
theorem dX11_commandFault_117 : decode cX11_commandFault 117 = .ok (.invokevirtual 363, 3) := by decide +kernel
theorem dX11_commandFault_120 : decode cX11_commandFault 120 = .ok (.areturn, 1) := by decide +kernel
theorem dX11_commandFault_121 : decode cX11_commandFault 121 = .ok (.aload_n 0, 1) := by decide +kernel
theorem dX11_commandFault_122 : decode cX11_commandFault 122 = .ok (.getfield 10, 3) := by decide +kernel
theorem dX11_commandFault_125 : decode cX11_commandFault 125 = .ok (.iconst 0, 1) := by decide +kernel
theorem dX11_commandFault_126 : decode cX11_commandFault 126 = .ok (.iload_n 1, 1) := by decide +kernel
theorem dX11_commandFault_127 : decode cX11_commandFault 127 = .ok (.iload_n 2, 1) := by decide +kernel
theorem dX11_commandFault_128 : decode cX11_commandFault 128 = .ok (.iload_n 3, 1) := by decide +kernel
theorem dX11_commandFault_129 : decode cX11_commandFault 129 = .ok (.iconst 1, 1) := by decide +kernel
theorem dX11_commandFault_130 : decode cX11_commandFault 130 = .ok (.aload_n 0, 1) := by decide +kernel
theorem dX11_commandFault_131 : decode cX11_commandFault 131 = .ok (.getfield 10, 3) := by decide +kernel
theorem dX11_commandFault_134 : decode cX11_commandFault 134 = .ok (.getfield 161, 3) := by decide +kernel
theorem dX11_commandFault_137 : decode cX11_commandFault 137 = .ok (.invokevirtual 362, 3) := by decide +kernel
theorem dX11_commandFault_140 : decode cX11_commandFault 140 = .ok (.invokevirtual 363, 3) := by decide +kernel
theorem dX11_commandFault_143 : decode cX11_commandFault 143 = .ok (.areturn, 1) := by decide +kernel
theorem dX11_commandFault_144 : decode cX11_commandFault 144 = .ok (.aload_n 0, 1) := by decide +kernel
theorem dX11_commandFault_145 : decode cX11_commandFault 145 = .ok (.getfield 10, 3) := by decide +kernel
theorem dX11_commandFault_148 : decode cX11_commandFault 148 = .ok (.iload_n 1, 1) := by decide +kernel
theorem dX11_commandFault_149 : decode cX11_commandFault 149 = .ok (.invokevirtual 95, 3) := by decide +kernel
theorem dX11_commandFault_152 : decode cX11_commandFault 152 = .ok (.areturn, 1) := by decide +kernel
theorem dX11_commandFault_153 : decode cX11_commandFault 153 = .ok (.aload_n 0, 1) := by decide +kernel
theorem dX11_commandFault_154 : decode cX11_commandFault 154 = .ok (.getfield 10, 3) := by decide +kernel
theorem dX11_commandFault_157 : decode cX11_commandFault 157 = .ok (.iload_n 1, 1) := by decide +kernel
theorem dX11_commandFault_158 : decode cX11_commandFault 158 = .ok (.invokevirtual 103, 3) := by decide +kernel
theorem dX11_commandFault_161 : decode cX11_commandFault 161 = .ok (.areturn, 1) := by decide +kernel
theorem dX11_commandFault_162 : decode cX11_commandFault 162 = .ok (.aload_n 0, 1) := by decide +kernel
theorem dX11_commandFault_163 : decode cX11_commandFault 163 = .ok (.getfield 10, 3) := by decide +kernel
theorem dX11_commandFault_166 : decode cX11_commandFault 166 = .ok (.invokevirtual 109, 3) := by decide +kernel
theorem dX11_commandFault_169 : decode cX11_commandFault 169 = .ok (.areturn, 1) := by decide +kernel
theorem dX11_commandFault_170 : decode cX11_commandFault 170 = .ok (.aload_n 0, 1) := by decide +kernel
theorem dX11_commandFault_171 : decode cX11_commandFault 171 = .ok (.getfield 10, 3) := by decide +kernel
theorem dX11_commandFault_174 : decode cX11_commandFault 174 = .ok (.invokevirtual 117, 3) := by decide +kernel
theorem dX11_commandFault_177 : decode cX11_commandFault 177 = .ok (.areturn, 1) := by decide +kernel
theorem dX11_runCommand_0 : decode cX11_runCommand 0 = .ok (.aload_n 0, 1) := by decide +kernel
theorem dX11_runCommand_1 : decode cX11_runCommand 1 = .ok (.getfield 39, 3) := by decide +kernel
theorem dX11_runCommand_4 : decode cX11_runCommand 4 = .ok (.getfield 419, 3) := by decide +kernel
theorem dX11_runCommand_7 : decode cX11_runCommand 7 = .ok (.iconst 0, 1) := by decide +kernel
theorem dX11_runCommand_8 : decode cX11_runCommand 8 = .ok (.invokevirtual 134, 3) := by decide +kernel
theorem dX11_runCommand_11 : decode cX11_runCommand 11 = .ok (.istore_n 1, 1) := by decide +kernel
theorem dX11_runCommand_12 : decode cX11_runCommand 12 = .ok (.aload_n 0, 1) := by decide +kernel
theorem dX11_runCommand_13 : decode cX11_runCommand 13 = .ok (.getfield 39, 3) := by decide +kernel
theorem dX11_runCommand_16 : decode cX11_runCommand 16 = .ok (.getfield 419, 3) := by decide +kernel
theorem dX11_runCommand_19 : decode cX11_runCommand 19 = .ok (.iconst 1, 1) := by decide +kernel
theorem dX11_runCommand_20 : decode cX11_runCommand 20 = .ok (.invokevirtual 134, 3) := by decide +kernel
theorem dX11_runCommand_23 : decode cX11_runCommand 23 = .ok (.istore_n 2, 1) := by decide +kernel
theorem dX11_runCommand_24 : decode cX11_runCommand 24 = .ok (.aload_n 0, 1) := by decide +kernel
theorem dX11_runCommand_25 : decode cX11_runCommand 25 = .ok (.getfield 39, 3) := by decide +kernel
theorem dX11_runCommand_28 : decode cX11_runCommand 28 = .ok (.getfield 419, 3) := by decide +kernel
theorem dX11_runCommand_31 : decode cX11_runCommand 31 = .ok (.iconst 2, 1) := by decide +kernel
theorem dX11_runCommand_32 : decode cX11_runCommand 32 = .ok (.invokevirtual 134, 3) := by decide +kernel
theorem dX11_runCommand_35 : decode cX11_runCommand 35 = .ok (.istore_n 3, 1) := by decide +kernel
theorem dX11_runCommand_36 : decode cX11_runCommand 36 = .ok (.getstatic 422, 3) := by decide +kernel
theorem dX11_runCommand_39 : decode cX11_runCommand 39 = .ok (.aload_n 0, 1) := by decide +kernel
theorem dX11_runCommand_40 : decode cX11_runCommand 40 = .ok (.getfield 39, 3) := by decide +kernel
theorem dX11_runCommand_43 : decode cX11_runCommand 43 = .ok (.getfield 428, 3) := by decide +kernel
theorem dX11_runCommand_46 : decode cX11_runCommand 46 = .ok (.invokevirtual 432, 3) := by decide +kernel
theorem dX11_runCommand_49 : decode cX11_runCommand 49 = .ok (.iaload, 1) := by decide +kernel
theorem dX11_runCommand_50 : decode cX11_runCommand 50 = .ok (.tableswitch 121 1 6 #[38, 54, 70, 86, 98, 110], 38) := by decide +kernel
theorem dX11_runCommand_88 : decode cX11_runCommand 88 = .ok (.aload_n 0, 1) := by decide +kernel
theorem dX11_runCommand_89 : decode cX11_runCommand 89 = .ok (.getfield 10, 3) := by decide +kernel
theorem dX11_runCommand_92 : decode cX11_runCommand 92 = .ok (.getfield 73, 3) := by decide +kernel
theorem dX11_runCommand_95 : decode cX11_runCommand 95 = .ok (.iload_n 1, 1) := by decide +kernel
theorem dX11_runCommand_96 : decode cX11_runCommand 96 = .ok (.iload_n 2, 1) := by decide +kernel
theorem dX11_runCommand_97 : decode cX11_runCommand 97 = .ok (.invokevirtual 77, 3) := by decide +kernel
theorem dX11_runCommand_100 : decode cX11_runCommand 100 = .ok (.pop, 1) := by decide +kernel
theorem dX11_runCommand_101 : decode cX11_runCommand 101 = .ok (.goto 78, 3) := by decide +kernel
theorem dX11_runCommand_104 : decode cX11_runCommand 104 = .ok (.aload_n 0, 1) := by decide +kernel
theorem dX11_runCommand_105 : decode cX11_runCommand 105 = .ok (.getfield 10, 3) := by decide +kernel
theorem dX11_runCommand_108 : decode cX11_runCommand 108 = .ok (.iconst 1, 1) := by decide +kernel
theorem dX11_runCommand_109 : decode cX11_runCommand 109 = .ok (.iload_n 1, 1) := by decide +kernel
theorem dX11_runCommand_110 : decode cX11_runCommand 110 = .ok (.iload_n 2, 1) := by decide +kernel
theorem dX11_runCommand_111 : decode cX11_runCommand 111 = .ok (.iload_n 3, 1) := by decide +kernel
theorem dX11_runCommand_112 : decode cX11_runCommand 112 = .ok (.iconst 0, 1) := by decide +kernel
theorem dX11_runCommand_113 : decode cX11_runCommand 113 = .ok (.invokevirtual 367, 3) := by decide +kernel
theorem dX11_runCommand_116 : decode cX11_runCommand 116 = .ok (.pop, 1) := by decide +kernel
theorem dX11_runCommand_117 : decode cX11_runCommand 117 = .ok (.goto 62, 3) := by decide +kernel
theorem dX11_runCommand_120 : decode cX11_runCommand 120 = .ok (.aload_n 0, 1) := by decide +kernel
theorem dX11_runCommand_121 : decode cX11_runCommand 121 = .ok (.getfield 10, 3) := by decide +kernel
theorem dX11_runCommand_124 : decode cX11_runCommand 124 = .ok (.iconst 0, 1) := by decide +kernel
theorem dX11_runCommand_125 : decode cX11_runCommand 125 = .ok (.iload_n 1, 1) := by decide +kernel
theorem dX11_runCommand_126 : decode cX11_runCommand 126 = .ok (.iload_n 2, 1) := by decide +kernel
theorem dX11_runCommand_127 : decode cX11_runCommand 127 = .ok (.iload_n 3, 1) := by decide +kernel
theorem dX11_runCommand_128 : decode cX11_runCommand 128 = .ok (.iconst 0, 1) := by decide +kernel
theorem dX11_runCommand_129 : decode cX11_runCommand 129 = .ok (.invokevirtual 367, 3) := by decide +kernel
theorem dX11_runCommand_132 : decode cX11_runCommand 132 = .ok (.pop, 1) := by decide +kernel
theorem dX11_runCommand_133 : decode cX11_runCommand 133 = .ok (.goto 46, 3) := by decide +kernel
theorem dX11_runCommand_136 : decode cX11_runCommand 136 = .ok (.aload_n 0, 1) := by decide +kernel
theorem dX11_runCommand_137 : decode cX11_runCommand 137 = .ok (.getfield 10, 3) := by decide +kernel
theorem dX11_runCommand_140 : decode cX11_runCommand 140 = .ok (.iload_n 1, 1) := by decide +kernel
theorem dX11_runCommand_141 : decode cX11_runCommand 141 = .ok (.invokevirtual 99, 3) := by decide +kernel
theorem dX11_runCommand_144 : decode cX11_runCommand 144 = .ok (.pop, 1) := by decide +kernel
theorem dX11_runCommand_145 : decode cX11_runCommand 145 = .ok (.goto 34, 3) := by decide +kernel
theorem dX11_runCommand_148 : decode cX11_runCommand 148 = .ok (.aload_n 0, 1) := by decide +kernel
theorem dX11_runCommand_149 : decode cX11_runCommand 149 = .ok (.getfield 10, 3) := by decide +kernel
theorem dX11_runCommand_152 : decode cX11_runCommand 152 = .ok (.iload_n 1, 1) := by decide +kernel
theorem dX11_runCommand_153 : decode cX11_runCommand 153 = .ok (.invokevirtual 106, 3) := by decide +kernel
theorem dX11_runCommand_156 : decode cX11_runCommand 156 = .ok (.pop, 1) := by decide +kernel
theorem dX11_runCommand_157 : decode cX11_runCommand 157 = .ok (.goto 22, 3) := by decide +kernel
theorem dX11_runCommand_160 : decode cX11_runCommand 160 = .ok (.aload_n 0, 1) := by decide +kernel
theorem dX11_runCommand_161 : decode cX11_runCommand 161 = .ok (.getfield 10, 3) := by decide +kernel
theorem dX11_runCommand_164 : decode cX11_runCommand 164 = .ok (.invokevirtual 113, 3) := by decide +kernel
theorem dX11_runCommand_167 : decode cX11_runCommand 167 = .ok (.pop, 1) := by decide +kernel
theorem dX11_runCommand_168 : decode cX11_runCommand 168 = .ok (.goto 11, 3) := by decide +kernel
theorem dX11_runCommand_171 : decode cX11_runCommand 171 = .ok (.aload_n 0, 1) := by decide +kernel
theorem dX11_runCommand_172 : decode cX11_runCommand 172 = .ok (.getfield 10, 3) := by decide +kernel
theorem dX11_runCommand_175 : decode cX11_runCommand 175 = .ok (.invokevirtual 120, 3) := by decide +kernel
theorem dX11_runCommand_178 : decode cX11_runCommand 178 = .ok (.pop, 1) := by decide +kernel
theorem dX11_runCommand_179 : decode cX11_runCommand 179 = .ok (.return_, 1) := by decide +kernel
