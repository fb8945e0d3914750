/-! The law: decode rows of its small methods -/
theorem dL_cell_0 : decode cL_cell 0 = .ok (.iload_n 1, 1) := by decide +kernel
theorem dL_cell_1 : decode cL_cell 1 = .ok (.aload_n 0, 1) := by decide +kernel
theorem dL_cell_2 : decode cL_cell 2 = .ok (.arraylength, 1) := by decide +kernel
theorem dL_cell_3 : decode cL_cell 3 = .ok (.if_icmp .ge 9, 3) := by decide +kernel
theorem dL_cell_6 : decode cL_cell 6 = .ok (.aload_n 0, 1) := by decide +kernel
theorem dL_cell_7 : decode cL_cell 7 = .ok (.iload_n 1, 1) := by decide +kernel
theorem dL_cell_8 : decode cL_cell 8 = .ok (.iaload, 1) := by decide +kernel
theorem dL_cell_9 : decode cL_cell 9 = .ok (.goto 7, 3) := by decide +kernel
theorem dL_cell_12 : decode cL_cell 12 = .ok (.ldc 7, 2) := by decide +kernel
theorem dL_cell_14 : decode cL_cell 14 = .ok (.iload_n 1, 1) := by decide +kernel
theorem dL_cell_15 : decode cL_cell 15 = .ok (.imul, 1) := by decide +kernel
theorem dL_cell_16 : decode cL_cell 16 = .ok (.ireturn, 1) := by decide +kernel
theorem dL_addStall_0 : decode cL_addStall 0 = .ok (.aload_n 0, 1) := by decide +kernel
theorem dL_addStall_1 : decode cL_addStall 1 = .ok (.iload_n 1, 1) := by decide +kernel
theorem dL_addStall_2 : decode cL_addStall 2 = .ok (.iload_n 2, 1) := by decide +kernel
theorem dL_addStall_3 : decode cL_addStall 3 = .ok (.invokevirtual 8, 3) := by decide +kernel
theorem dL_addStall_6 : decode cL_addStall 6 = .ok (.ireturn, 1) := by decide +kernel
theorem dL_addStall_7 : decode cL_addStall 7 = .ok (.astore_n 3, 1) := by decide +kernel
theorem dL_addStall_8 : decode cL_addStall 8 = .ok (.iconst (-1), 1) := by decide +kernel
theorem dL_addStall_9 : decode cL_addStall 9 = .ok (.ireturn, 1) := by decide +kernel
theorem dL_addStall_10 : decode cL_addStall 10 = .ok (.astore_n 3, 1) := by decide +kernel
theorem dL_addStall_11 : decode cL_addStall 11 = .ok (.bipush (-2), 2) := by decide +kernel
theorem dL_addStall_13 : decode cL_addStall 13 = .ok (.ireturn, 1) := by decide +kernel
theorem dL_buy_0 : decode cL_buy 0 = .ok (.aload_n 0, 1) := by decide +kernel
theorem dL_buy_1 : decode cL_buy 1 = .ok (.iload_n 1, 1) := by decide +kernel
theorem dL_buy_2 : decode cL_buy 2 = .ok (.iload_n 2, 1) := by decide +kernel
theorem dL_buy_3 : decode cL_buy 3 = .ok (.iload_n 3, 1) := by decide +kernel
theorem dL_buy_4 : decode cL_buy 4 = .ok (.invokevirtual 18, 3) := by decide +kernel
theorem dL_buy_7 : decode cL_buy 7 = .ok (.ireturn, 1) := by decide +kernel
theorem dL_buy_8 : decode cL_buy 8 = .ok (.astore 4, 2) := by decide +kernel
theorem dL_buy_10 : decode cL_buy 10 = .ok (.iconst (-1), 1) := by decide +kernel
theorem dL_buy_11 : decode cL_buy 11 = .ok (.ireturn, 1) := by decide +kernel
theorem dL_buy_12 : decode cL_buy 12 = .ok (.astore 4, 2) := by decide +kernel
theorem dL_buy_14 : decode cL_buy 14 = .ok (.bipush (-2), 2) := by decide +kernel
theorem dL_buy_16 : decode cL_buy 16 = .ok (.ireturn, 1) := by decide +kernel
theorem dL_buy_17 : decode cL_buy 17 = .ok (.astore 4, 2) := by decide +kernel
theorem dL_buy_19 : decode cL_buy 19 = .ok (.bipush (-3), 2) := by decide +kernel
theorem dL_buy_21 : decode cL_buy 21 = .ok (.ireturn, 1) := by decide +kernel
theorem dL_buy_22 : decode cL_buy 22 = .ok (.astore 4, 2) := by decide +kernel
theorem dL_buy_24 : decode cL_buy 24 = .ok (.bipush (-4), 2) := by decide +kernel
theorem dL_buy_26 : decode cL_buy 26 = .ok (.ireturn, 1) := by decide +kernel
theorem dL_sell_0 : decode cL_sell 0 = .ok (.aload_n 0, 1) := by decide +kernel
theorem dL_sell_1 : decode cL_sell 1 = .ok (.iload_n 1, 1) := by decide +kernel
theorem dL_sell_2 : decode cL_sell 2 = .ok (.iload_n 2, 1) := by decide +kernel
theorem dL_sell_3 : decode cL_sell 3 = .ok (.iload_n 3, 1) := by decide +kernel
theorem dL_sell_4 : decode cL_sell 4 = .ok (.invokevirtual 26, 3) := by decide +kernel
theorem dL_sell_7 : decode cL_sell 7 = .ok (.ireturn, 1) := by decide +kernel
theorem dL_sell_8 : decode cL_sell 8 = .ok (.astore 4, 2) := by decide +kernel
theorem dL_sell_10 : decode cL_sell 10 = .ok (.iconst (-1), 1) := by decide +kernel
theorem dL_sell_11 : decode cL_sell 11 = .ok (.ireturn, 1) := by decide +kernel
theorem dL_sell_12 : decode cL_sell 12 = .ok (.astore 4, 2) := by decide +kernel
theorem dL_sell_14 : decode cL_sell 14 = .ok (.bipush (-2), 2) := by decide +kernel
theorem dL_sell_16 : decode cL_sell 16 = .ok (.ireturn, 1) := by decide +kernel
theorem dL_sell_17 : decode cL_sell 17 = .ok (.astore 4, 2) := by decide +kernel
theorem dL_sell_19 : decode cL_sell 19 = .ok (.bipush (-3), 2) := by decide +kernel
theorem dL_sell_21 : decode cL_sell 21 = .ok (.ireturn, 1) := by decide +kernel
theorem dL_sell_22 : decode cL_sell 22 = .ok (.astore 4, 2) := by decide +kernel
theorem dL_sell_24 : decode cL_sell 24 = .ok (.bipush (-4), 2) := by decide +kernel
theorem dL_sell_26 : decode cL_sell 26 = .ok (.ireturn, 1) := by decide +kernel
theorem dL_buyFor_0 : decode cL_buyFor 0 = .ok (.aload_n 0, 1) := by decide +kernel
theorem dL_buyFor_1 : decode cL_buyFor 1 = .ok (.iload_n 1, 1) := by decide +kernel
theorem dL_buyFor_2 : decode cL_buyFor 2 = .ok (.iload_n 2, 1) := by decide +kernel
theorem dL_buyFor_3 : decode cL_buyFor 3 = .ok (.iload_n 3, 1) := by decide +kernel
theorem dL_buyFor_4 : decode cL_buyFor 4 = .ok (.iload 4, 2) := by decide +kernel
theorem dL_buyFor_6 : decode cL_buyFor 6 = .ok (.invokevirtual 29, 3) := by decide +kernel
theorem dL_buyFor_9 : decode cL_buyFor 9 = .ok (.ireturn, 1) := by decide +kernel
theorem dL_buyFor_10 : decode cL_buyFor 10 = .ok (.astore 5, 2) := by decide +kernel
theorem dL_buyFor_12 : decode cL_buyFor 12 = .ok (.iconst (-1), 1) := by decide +kernel
theorem dL_buyFor_13 : decode cL_buyFor 13 = .ok (.ireturn, 1) := by decide +kernel
theorem dL_buyFor_14 : decode cL_buyFor 14 = .ok (.astore 5, 2) := by decide +kernel
theorem dL_buyFor_16 : decode cL_buyFor 16 = .ok (.bipush (-2), 2) := by decide +kernel
theorem dL_buyFor_18 : decode cL_buyFor 18 = .ok (.ireturn, 1) := by decide +kernel
theorem dL_buyFor_19 : decode cL_buyFor 19 = .ok (.astore 5, 2) := by decide +kernel
theorem dL_buyFor_21 : decode cL_buyFor 21 = .ok (.bipush (-3), 2) := by decide +kernel
theorem dL_buyFor_23 : decode cL_buyFor 23 = .ok (.ireturn, 1) := by decide +kernel
theorem dL_buyFor_24 : decode cL_buyFor 24 = .ok (.astore 5, 2) := by decide +kernel
theorem dL_buyFor_26 : decode cL_buyFor 26 = .ok (.bipush (-4), 2) := by decide +kernel
theorem dL_buyFor_28 : decode cL_buyFor 28 = .ok (.ireturn, 1) := by decide +kernel
theorem dL_sellFor_0 : decode cL_sellFor 0 = .ok (.aload_n 0, 1) := by decide +kernel
theorem dL_sellFor_1 : decode cL_sellFor 1 = .ok (.iload_n 1, 1) := by decide +kernel
theorem dL_sellFor_2 : decode cL_sellFor 2 = .ok (.iload_n 2, 1) := by decide +kernel
theorem dL_sellFor_3 : decode cL_sellFor 3 = .ok (.iload_n 3, 1) := by decide +kernel
theorem dL_sellFor_4 : decode cL_sellFor 4 = .ok (.iload 4, 2) := by decide +kernel
theorem dL_sellFor_6 : decode cL_sellFor 6 = .ok (.invokevirtual 33, 3) := by decide +kernel
theorem dL_sellFor_9 : decode cL_sellFor 9 = .ok (.ireturn, 1) := by decide +kernel
theorem dL_sellFor_10 : decode cL_sellFor 10 = .ok (.astore 5, 2) := by decide +kernel
theorem dL_sellFor_12 : decode cL_sellFor 12 = .ok (.iconst (-1), 1) := by decide +kernel
theorem dL_sellFor_13 : decode cL_sellFor 13 = .ok (.ireturn, 1) := by decide +kernel
theorem dL_sellFor_14 : decode cL_sellFor 14 = .ok (.astore 5, 2) := by decide +kernel
theorem dL_sellFor_16 : decode cL_sellFor 16 = .ok (.bipush (-2), 2) := by decide +kernel
theorem dL_sellFor_18 : decode cL_sellFor 18 = .ok (.ireturn, 1) := by decide +kernel
theorem dL_sellFor_19 : decode cL_sellFor 19 = .ok (.astore 5, 2) := by decide +kernel
theorem dL_sellFor_21 : decode cL_sellFor 21 = .ok (.bipush (-3), 2) := by decide +kernel
theorem dL_sellFor_23 : decode cL_sellFor 23 = .ok (.ireturn, 1) := by decide +kernel
theorem dL_sellFor_24 : decode cL_sellFor 24 = .ok (.astore 5, 2) := by decide +kernel
theorem dL_sellFor_26 : decode cL_sellFor 26 = .ok (.bipush (-4), 2) := by decide +kernel
theorem dL_sellFor_28 : decode cL_sellFor 28 = .ok (.ireturn, 1) := by decide +kernel
theorem dL_takeBuy_0 : decode cL_takeBuy 0 = .ok (.aload_n 0, 1) := by decide +kernel
theorem dL_takeBuy_1 : decode cL_takeBuy 1 = .ok (.iload_n 1, 1) := by decide +kernel
theorem dL_takeBuy_2 : decode cL_takeBuy 2 = .ok (.iload_n 2, 1) := by decide +kernel
theorem dL_takeBuy_3 : decode cL_takeBuy 3 = .ok (.iload_n 3, 1) := by decide +kernel
theorem dL_takeBuy_4 : decode cL_takeBuy 4 = .ok (.invokevirtual 36, 3) := by decide +kernel
theorem dL_takeBuy_7 : decode cL_takeBuy 7 = .ok (.ireturn, 1) := by decide +kernel
theorem dL_takeBuy_8 : decode cL_takeBuy 8 = .ok (.astore 4, 2) := by decide +kernel
theorem dL_takeBuy_10 : decode cL_takeBuy 10 = .ok (.iconst (-1), 1) := by decide +kernel
theorem dL_takeBuy_11 : decode cL_takeBuy 11 = .ok (.ireturn, 1) := by decide +kernel
theorem dL_takeBuy_12 : decode cL_takeBuy 12 = .ok (.astore 4, 2) := by decide +kernel
theorem dL_takeBuy_14 : decode cL_takeBuy 14 = .ok (.bipush (-2), 2) := by decide +kernel
theorem dL_takeBuy_16 : decode cL_takeBuy 16 = .ok (.ireturn, 1) := by decide +kernel
theorem dL_takeBuy_17 : decode cL_takeBuy 17 = .ok (.astore 4, 2) := by decide +kernel
theorem dL_takeBuy_19 : decode cL_takeBuy 19 = .ok (.bipush (-3), 2) := by decide +kernel
theorem dL_takeBuy_21 : decode cL_takeBuy 21 = .ok (.ireturn, 1) := by decide +kernel
theorem dL_takeBuy_22 : decode cL_takeBuy 22 = .ok (.astore 4, 2) := by decide +kernel
theorem dL_takeBuy_24 : decode cL_takeBuy 24 = .ok (.bipush (-4), 2) := by decide +kernel
theorem dL_takeBuy_26 : decode cL_takeBuy 26 = .ok (.ireturn, 1) := by decide +kernel
theorem dL_takeSell_0 : decode cL_takeSell 0 = .ok (.aload_n 0, 1) := by decide +kernel
theorem dL_takeSell_1 : decode cL_takeSell 1 = .ok (.iload_n 1, 1) := by decide +kernel
theorem dL_takeSell_2 : decode cL_takeSell 2 = .ok (.iload_n 2, 1) := by decide +kernel
theorem dL_takeSell_3 : decode cL_takeSell 3 = .ok (.iload_n 3, 1) := by decide +kernel
theorem dL_takeSell_4 : decode cL_takeSell 4 = .ok (.invokevirtual 39, 3) := by decide +kernel
theorem dL_takeSell_7 : decode cL_takeSell 7 = .ok (.ireturn, 1) := by decide +kernel
theorem dL_takeSell_8 : decode cL_takeSell 8 = .ok (.astore 4, 2) := by decide +kernel
theorem dL_takeSell_10 : decode cL_takeSell 10 = .ok (.iconst (-1), 1) := by decide +kernel
theorem dL_takeSell_11 : decode cL_takeSell 11 = .ok (.ireturn, 1) := by decide +kernel
theorem dL_takeSell_12 : decode cL_takeSell 12 = .ok (.astore 4, 2) := by decide +kernel
theorem dL_takeSell_14 : decode cL_takeSell 14 = .ok (.bipush (-2), 2) := by decide +kernel
theorem dL_takeSell_16 : decode cL_takeSell 16 = .ok (.ireturn, 1) := by decide +kernel
theorem dL_takeSell_17 : decode cL_takeSell 17 = .ok (.astore 4, 2) := by decide +kernel
theorem dL_takeSell_19 : decode cL_takeSell 19 = .ok (.bipush (-3), 2) := by decide +kernel
theorem dL_takeSell_21 : decode cL_takeSell 21 = .ok (.ireturn, 1) := by decide +kernel
theorem dL_takeSell_22 : decode cL_takeSell 22 = .ok (.astore 4, 2) := by decide +kernel
theorem dL_takeSell_24 : decode cL_takeSell 24 = .ok (.bipush (-4), 2) := by decide +kernel
theorem dL_takeSell_26 : decode cL_takeSell 26 = .ok (.ireturn, 1) := by decide +kernel
theorem dL_cancel_0 : decode cL_cancel 0 = .ok (.aload_n 0, 1) := by decide +kernel
theorem dL_cancel_1 : decode cL_cancel 1 = .ok (.iload_n 1, 1) := by decide +kernel
theorem dL_cancel_2 : decode cL_cancel 2 = .ok (.invokevirtual 42, 3) := by decide +kernel
theorem dL_cancel_5 : decode cL_cancel 5 = .ok (.ireturn, 1) := by decide +kernel
theorem dL_cancel_6 : decode cL_cancel 6 = .ok (.astore_n 2, 1) := by decide +kernel
theorem dL_cancel_7 : decode cL_cancel 7 = .ok (.iconst (-1), 1) := by decide +kernel
theorem dL_cancel_8 : decode cL_cancel 8 = .ok (.ireturn, 1) := by decide +kernel
theorem dL_pass_0 : decode cL_pass 0 = .ok (.aload_n 0, 1) := by decide +kernel
theorem dL_pass_1 : decode cL_pass 1 = .ok (.iload_n 1, 1) := by decide +kernel
theorem dL_pass_2 : decode cL_pass 2 = .ok (.invokevirtual 48, 3) := by decide +kernel
theorem dL_pass_5 : decode cL_pass 5 = .ok (.ireturn, 1) := by decide +kernel
theorem dL_pass_6 : decode cL_pass 6 = .ok (.astore_n 2, 1) := by decide +kernel
theorem dL_pass_7 : decode cL_pass 7 = .ok (.iconst (-1), 1) := by decide +kernel
theorem dL_pass_8 : decode cL_pass 8 = .ok (.ireturn, 1) := by decide +kernel
theorem dL_open_0 : decode cL_open 0 = .ok (.aload_n 0, 1) := by decide +kernel
theorem dL_open_1 : decode cL_open 1 = .ok (.invokevirtual 51, 3) := by decide +kernel
theorem dL_open_4 : decode cL_open 4 = .ok (.ireturn, 1) := by decide +kernel
theorem dL_open_5 : decode cL_open 5 = .ok (.astore_n 1, 1) := by decide +kernel
theorem dL_open_6 : decode cL_open 6 = .ok (.iconst (-1), 1) := by decide +kernel
theorem dL_open_7 : decode cL_open 7 = .ok (.ireturn, 1) := by decide +kernel
theorem dL_close_0 : decode cL_close 0 = .ok (.aload_n 0, 1) := by decide +kernel
theorem dL_close_1 : decode cL_close 1 = .ok (.invokevirtual 55, 3) := by decide +kernel
theorem dL_close_4 : decode cL_close 4 = .ok (.ireturn, 1) := by decide +kernel
theorem dL_close_5 : decode cL_close 5 = .ok (.astore_n 1, 1) := by decide +kernel
theorem dL_close_6 : decode cL_close 6 = .ok (.iconst (-1), 1) := by decide +kernel
theorem dL_close_7 : decode cL_close 7 = .ok (.ireturn, 1) := by decide +kernel
theorem dL_money_0 : decode cL_money 0 = .ok (.aload_n 0, 1) := by decide +kernel
theorem dL_money_1 : decode cL_money 1 = .ok (.iload_n 1, 1) := by decide +kernel
theorem dL_money_2 : decode cL_money 2 = .ok (.invokevirtual 58, 3) := by decide +kernel
theorem dL_money_5 : decode cL_money 5 = .ok (.ireturn, 1) := by decide +kernel
theorem dL_money_6 : decode cL_money 6 = .ok (.astore_n 2, 1) := by decide +kernel
theorem dL_money_7 : decode cL_money 7 = .ok (.bipush (-11), 2) := by decide +kernel
theorem dL_money_9 : decode cL_money 9 = .ok (.ireturn, 1) := by decide +kernel
theorem dL_drops_0 : decode cL_drops 0 = .ok (.aload_n 0, 1) := by decide +kernel
theorem dL_drops_1 : decode cL_drops 1 = .ok (.iload_n 1, 1) := by decide +kernel
theorem dL_drops_2 : decode cL_drops 2 = .ok (.invokevirtual 61, 3) := by decide +kernel
theorem dL_drops_5 : decode cL_drops 5 = .ok (.ireturn, 1) := by decide +kernel
theorem dL_drops_6 : decode cL_drops 6 = .ok (.astore_n 2, 1) := by decide +kernel
theorem dL_drops_7 : decode cL_drops 7 = .ok (.bipush (-11), 2) := by decide +kernel
theorem dL_drops_9 : decode cL_drops 9 = .ok (.ireturn, 1) := by decide +kernel
theorem dL_freeMoney_0 : decode cL_freeMoney 0 = .ok (.aload_n 0, 1) := by decide +kernel
theorem dL_freeMoney_1 : decode cL_freeMoney 1 = .ok (.iload_n 1, 1) := by decide +kernel
theorem dL_freeMoney_2 : decode cL_freeMoney 2 = .ok (.invokevirtual 64, 3) := by decide +kernel
theorem dL_freeMoney_5 : decode cL_freeMoney 5 = .ok (.ireturn, 1) := by decide +kernel
theorem dL_freeMoney_6 : decode cL_freeMoney 6 = .ok (.astore_n 2, 1) := by decide +kernel
theorem dL_freeMoney_7 : decode cL_freeMoney 7 = .ok (.bipush (-11), 2) := by decide +kernel
theorem dL_freeMoney_9 : decode cL_freeMoney 9 = .ok (.ireturn, 1) := by decide +kernel
theorem dL_freeDrops_0 : decode cL_freeDrops 0 = .ok (.aload_n 0, 1) := by decide +kernel
theorem dL_freeDrops_1 : decode cL_freeDrops 1 = .ok (.iload_n 1, 1) := by decide +kernel
theorem dL_freeDrops_2 : decode cL_freeDrops 2 = .ok (.invokevirtual 67, 3) := by decide +kernel
theorem dL_freeDrops_5 : decode cL_freeDrops 5 = .ok (.ireturn, 1) := by decide +kernel
theorem dL_freeDrops_6 : decode cL_freeDrops 6 = .ok (.astore_n 2, 1) := by decide +kernel
theorem dL_freeDrops_7 : decode cL_freeDrops 7 = .ok (.bipush (-11), 2) := by decide +kernel
theorem dL_freeDrops_9 : decode cL_freeDrops 9 = .ok (.ireturn, 1) := by decide +kernel
theorem dL_byMoney_0 : decode cL_byMoney 0 = .ok (.aload_n 0, 1) := by decide +kernel
theorem dL_byMoney_1 : decode cL_byMoney 1 = .ok (.iload_n 1, 1) := by decide +kernel
theorem dL_byMoney_2 : decode cL_byMoney 2 = .ok (.invokevirtual 70, 3) := by decide +kernel
theorem dL_byMoney_5 : decode cL_byMoney 5 = .ok (.ireturn, 1) := by decide +kernel
theorem dL_byMoney_6 : decode cL_byMoney 6 = .ok (.astore_n 2, 1) := by decide +kernel
theorem dL_byMoney_7 : decode cL_byMoney 7 = .ok (.bipush (-13), 2) := by decide +kernel
theorem dL_byMoney_9 : decode cL_byMoney 9 = .ok (.ireturn, 1) := by decide +kernel
theorem dL_orderAt_0 : decode cL_orderAt 0 = .ok (.aload_n 0, 1) := by decide +kernel
theorem dL_orderAt_1 : decode cL_orderAt 1 = .ok (.iload_n 1, 1) := by decide +kernel
theorem dL_orderAt_2 : decode cL_orderAt 2 = .ok (.invokevirtual 73, 3) := by decide +kernel
theorem dL_orderAt_5 : decode cL_orderAt 5 = .ok (.ireturn, 1) := by decide +kernel
theorem dL_orderAt_6 : decode cL_orderAt 6 = .ok (.astore_n 2, 1) := by decide +kernel
theorem dL_orderAt_7 : decode cL_orderAt 7 = .ok (.bipush (-11), 2) := by decide +kernel
theorem dL_orderAt_9 : decode cL_orderAt 9 = .ok (.ireturn, 1) := by decide +kernel
theorem dL_stallOf_0 : decode cL_stallOf 0 = .ok (.aload_n 0, 1) := by decide +kernel
theorem dL_stallOf_1 : decode cL_stallOf 1 = .ok (.iload_n 1, 1) := by decide +kernel
theorem dL_stallOf_2 : decode cL_stallOf 2 = .ok (.invokevirtual 76, 3) := by decide +kernel
theorem dL_stallOf_5 : decode cL_stallOf 5 = .ok (.ireturn, 1) := by decide +kernel
theorem dL_stallOf_6 : decode cL_stallOf 6 = .ok (.astore_n 2, 1) := by decide +kernel
theorem dL_stallOf_7 : decode cL_stallOf 7 = .ok (.bipush (-13), 2) := by decide +kernel
theorem dL_stallOf_9 : decode cL_stallOf 9 = .ok (.ireturn, 1) := by decide +kernel
theorem dL_isBuying_0 : decode cL_isBuying 0 = .ok (.aload_n 0, 1) := by decide +kernel
theorem dL_isBuying_1 : decode cL_isBuying 1 = .ok (.iload_n 1, 1) := by decide +kernel
theorem dL_isBuying_2 : decode cL_isBuying 2 = .ok (.invokevirtual 79, 3) := by decide +kernel
theorem dL_isBuying_5 : decode cL_isBuying 5 = .ok (.ifCond .eq 7, 3) := by decide +kernel
theorem dL_isBuying_8 : decode cL_isBuying 8 = .ok (.iconst 1, 1) := by decide +kernel
theorem dL_isBuying_9 : decode cL_isBuying 9 = .ok (.goto 4, 3) := by decide +kernel
theorem dL_isBuying_12 : decode cL_isBuying 12 = .ok (.iconst 0, 1) := by decide +kernel
theorem dL_isBuying_13 : decode cL_isBuying 13 = .ok (.ireturn, 1) := by decide +kernel
theorem dL_isBuying_14 : decode cL_isBuying 14 = .ok (.astore_n 2, 1) := by decide +kernel
theorem dL_isBuying_15 : decode cL_isBuying 15 = .ok (.bipush (-13), 2) := by decide +kernel
theorem dL_isBuying_17 : decode cL_isBuying 17 = .ok (.ireturn, 1) := by decide +kernel
theorem dL_priceOf_0 : decode cL_priceOf 0 = .ok (.aload_n 0, 1) := by decide +kernel
theorem dL_priceOf_1 : decode cL_priceOf 1 = .ok (.iload_n 1, 1) := by decide +kernel
theorem dL_priceOf_2 : decode cL_priceOf 2 = .ok (.invokevirtual 83, 3) := by decide +kernel
theorem dL_priceOf_5 : decode cL_priceOf 5 = .ok (.ireturn, 1) := by decide +kernel
theorem dL_priceOf_6 : decode cL_priceOf 6 = .ok (.astore_n 2, 1) := by decide +kernel
theorem dL_priceOf_7 : decode cL_priceOf 7 = .ok (.bipush (-13), 2) := by decide +kernel
theorem dL_priceOf_9 : decode cL_priceOf 9 = .ok (.ireturn, 1) := by decide +kernel
theorem dL_quantityOf_0 : decode cL_quantityOf 0 = .ok (.aload_n 0, 1) := by decide +kernel
theorem dL_quantityOf_1 : decode cL_quantityOf 1 = .ok (.iload_n 1, 1) := by decide +kernel
theorem dL_quantityOf_2 : decode cL_quantityOf 2 = .ok (.invokevirtual 86, 3) := by decide +kernel
theorem dL_quantityOf_5 : decode cL_quantityOf 5 = .ok (.ireturn, 1) := by decide +kernel
theorem dL_quantityOf_6 : decode cL_quantityOf 6 = .ok (.astore_n 2, 1) := by decide +kernel
theorem dL_quantityOf_7 : decode cL_quantityOf 7 = .ok (.bipush (-13), 2) := by decide +kernel
theorem dL_quantityOf_9 : decode cL_quantityOf 9 = .ok (.ireturn, 1) := by decide +kernel
theorem dL_minutesLeft_0 : decode cL_minutesLeft 0 = .ok (.aload_n 0, 1) := by decide +kernel
theorem dL_minutesLeft_1 : decode cL_minutesLeft 1 = .ok (.iload_n 1, 1) := by decide +kernel
theorem dL_minutesLeft_2 : decode cL_minutesLeft 2 = .ok (.invokevirtual 89, 3) := by decide +kernel
theorem dL_minutesLeft_5 : decode cL_minutesLeft 5 = .ok (.ireturn, 1) := by decide +kernel
theorem dL_minutesLeft_6 : decode cL_minutesLeft 6 = .ok (.astore_n 2, 1) := by decide +kernel
theorem dL_minutesLeft_7 : decode cL_minutesLeft 7 = .ok (.bipush (-13), 2) := by decide +kernel
theorem dL_minutesLeft_9 : decode cL_minutesLeft 9 = .ok (.ireturn, 1) := by decide +kernel
theorem dL_minutesLeft_10 : decode cL_minutesLeft 10 = .ok (.astore_n 2, 1) := by decide +kernel
theorem dL_minutesLeft_11 : decode cL_minutesLeft 11 = .ok (.bipush (-14), 2) := by decide +kernel
theorem dL_minutesLeft_13 : decode cL_minutesLeft 13 = .ok (.ireturn, 1) := by decide +kernel
theorem dL_bestBuy_0 : decode cL_bestBuy 0 = .ok (.aload_n 0, 1) := by decide +kernel
theorem dL_bestBuy_1 : decode cL_bestBuy 1 = .ok (.invokevirtual 92, 3) := by decide +kernel
theorem dL_bestBuy_4 : decode cL_bestBuy 4 = .ok (.ireturn, 1) := by decide +kernel
theorem dL_bestBuy_5 : decode cL_bestBuy 5 = .ok (.astore_n 1, 1) := by decide +kernel
theorem dL_bestBuy_6 : decode cL_bestBuy 6 = .ok (.bipush (-13), 2) := by decide +kernel
theorem dL_bestBuy_8 : decode cL_bestBuy 8 = .ok (.ireturn, 1) := by decide +kernel
theorem dL_bestSell_0 : decode cL_bestSell 0 = .ok (.aload_n 0, 1) := by decide +kernel
theorem dL_bestSell_1 : decode cL_bestSell 1 = .ok (.invokevirtual 95, 3) := by decide +kernel
theorem dL_bestSell_4 : decode cL_bestSell 4 = .ok (.ireturn, 1) := by decide +kernel
theorem dL_bestSell_5 : decode cL_bestSell 5 = .ok (.astore_n 1, 1) := by decide +kernel
theorem dL_bestSell_6 : decode cL_bestSell 6 = .ok (.bipush (-13), 2) := by decide +kernel
theorem dL_bestSell_8 : decode cL_bestSell 8 = .ok (.ireturn, 1) := by decide +kernel
theorem dL_spread_0 : decode cL_spread 0 = .ok (.aload_n 0, 1) := by decide +kernel
theorem dL_spread_1 : decode cL_spread 1 = .ok (.invokevirtual 98, 3) := by decide +kernel
theorem dL_spread_4 : decode cL_spread 4 = .ok (.ireturn, 1) := by decide +kernel
theorem dL_spread_5 : decode cL_spread 5 = .ok (.astore_n 1, 1) := by decide +kernel
theorem dL_spread_6 : decode cL_spread 6 = .ok (.sipush (-1300), 3) := by decide +kernel
theorem dL_spread_9 : decode cL_spread 9 = .ok (.ireturn, 1) := by decide +kernel
theorem dL_spreadBySums_0 : decode cL_spreadBySums 0 = .ok (.aload_n 0, 1) := by decide +kernel
theorem dL_spreadBySums_1 : decode cL_spreadBySums 1 = .ok (.invokevirtual 101, 3) := by decide +kernel
theorem dL_spreadBySums_4 : decode cL_spreadBySums 4 = .ok (.ireturn, 1) := by decide +kernel
theorem dL_spreadBySums_5 : decode cL_spreadBySums 5 = .ok (.astore_n 1, 1) := by decide +kernel
theorem dL_spreadBySums_6 : decode cL_spreadBySums 6 = .ok (.sipush (-1300), 3) := by decide +kernel
theorem dL_spreadBySums_9 : decode cL_spreadBySums 9 = .ok (.ireturn, 1) := by decide +kernel
theorem dL_buyingAt_0 : decode cL_buyingAt 0 = .ok (.aload_n 0, 1) := by decide +kernel
theorem dL_buyingAt_1 : decode cL_buyingAt 1 = .ok (.iload_n 1, 1) := by decide +kernel
theorem dL_buyingAt_2 : decode cL_buyingAt 2 = .ok (.invokevirtual 104, 3) := by decide +kernel
theorem dL_buyingAt_5 : decode cL_buyingAt 5 = .ok (.ireturn, 1) := by decide +kernel
theorem dL_buyingAt_6 : decode cL_buyingAt 6 = .ok (.astore_n 2, 1) := by decide +kernel
theorem dL_buyingAt_7 : decode cL_buyingAt 7 = .ok (.bipush (-12), 2) := by decide +kernel
theorem dL_buyingAt_9 : decode cL_buyingAt 9 = .ok (.ireturn, 1) := by decide +kernel
theorem dL_sellingAt_0 : decode cL_sellingAt 0 = .ok (.aload_n 0, 1) := by decide +kernel
theorem dL_sellingAt_1 : decode cL_sellingAt 1 = .ok (.iload_n 1, 1) := by decide +kernel
theorem dL_sellingAt_2 : decode cL_sellingAt 2 = .ok (.invokevirtual 107, 3) := by decide +kernel
theorem dL_sellingAt_5 : decode cL_sellingAt 5 = .ok (.ireturn, 1) := by decide +kernel
theorem dL_sellingAt_6 : decode cL_sellingAt 6 = .ok (.astore_n 2, 1) := by decide +kernel
theorem dL_sellingAt_7 : decode cL_sellingAt 7 = .ok (.bipush (-12), 2) := by decide +kernel
theorem dL_sellingAt_9 : decode cL_sellingAt 9 = .ok (.ireturn, 1) := by decide +kernel
theorem dL_lastPrice_0 : decode cL_lastPrice 0 = .ok (.aload_n 0, 1) := by decide +kernel
theorem dL_lastPrice_1 : decode cL_lastPrice 1 = .ok (.invokevirtual 110, 3) := by decide +kernel
theorem dL_lastPrice_4 : decode cL_lastPrice 4 = .ok (.ireturn, 1) := by decide +kernel
theorem dL_lastPrice_5 : decode cL_lastPrice 5 = .ok (.astore_n 1, 1) := by decide +kernel
theorem dL_lastPrice_6 : decode cL_lastPrice 6 = .ok (.bipush (-13), 2) := by decide +kernel
theorem dL_lastPrice_8 : decode cL_lastPrice 8 = .ok (.ireturn, 1) := by decide +kernel
theorem dL_poolPrice_0 : decode cL_poolPrice 0 = .ok (.aload_n 0, 1) := by decide +kernel
theorem dL_poolPrice_1 : decode cL_poolPrice 1 = .ok (.invokevirtual 113, 3) := by decide +kernel
theorem dL_poolPrice_4 : decode cL_poolPrice 4 = .ok (.ireturn, 1) := by decide +kernel
theorem dL_poolPrice_5 : decode cL_poolPrice 5 = .ok (.astore_n 1, 1) := by decide +kernel
theorem dL_poolPrice_6 : decode cL_poolPrice 6 = .ok (.bipush (-13), 2) := by decide +kernel
theorem dL_poolPrice_8 : decode cL_poolPrice 8 = .ok (.ireturn, 1) := by decide +kernel
theorem dL_poolBySums_0 : decode cL_poolBySums 0 = .ok (.aload_n 0, 1) := by decide +kernel
theorem dL_poolBySums_1 : decode cL_poolBySums 1 = .ok (.invokevirtual 116, 3) := by decide +kernel
theorem dL_poolBySums_4 : decode cL_poolBySums 4 = .ok (.ireturn, 1) := by decide +kernel
theorem dL_poolBySums_5 : decode cL_poolBySums 5 = .ok (.astore_n 1, 1) := by decide +kernel
theorem dL_poolBySums_6 : decode cL_poolBySums 6 = .ok (.bipush (-13), 2) := by decide +kernel
theorem dL_poolBySums_8 : decode cL_poolBySums 8 = .ok (.ireturn, 1) := by decide +kernel
theorem dL_volumeAt_0 : decode cL_volumeAt 0 = .ok (.aload_n 0, 1) := by decide +kernel
theorem dL_volumeAt_1 : decode cL_volumeAt 1 = .ok (.iload_n 1, 1) := by decide +kernel
theorem dL_volumeAt_2 : decode cL_volumeAt 2 = .ok (.invokevirtual 119, 3) := by decide +kernel
theorem dL_volumeAt_5 : decode cL_volumeAt 5 = .ok (.ireturn, 1) := by decide +kernel
theorem dL_volumeAt_6 : decode cL_volumeAt 6 = .ok (.astore_n 2, 1) := by decide +kernel
theorem dL_volumeAt_7 : decode cL_volumeAt 7 = .ok (.bipush (-12), 2) := by decide +kernel
theorem dL_volumeAt_9 : decode cL_volumeAt 9 = .ok (.ireturn, 1) := by decide +kernel
theorem dL_writeOrder_0 : decode cL_writeOrder 0 = .ok (.aload_n 0, 1) := by decide +kernel
theorem dL_writeOrder_1 : decode cL_writeOrder 1 = .ok (.iload_n 1, 1) := by decide +kernel
theorem dL_writeOrder_2 : decode cL_writeOrder 2 = .ok (.invokevirtual 122, 3) := by decide +kernel
theorem dL_writeOrder_5 : decode cL_writeOrder 5 = .ok (.ireturn, 1) := by decide +kernel
theorem dL_writeOrder_6 : decode cL_writeOrder 6 = .ok (.astore_n 2, 1) := by decide +kernel
theorem dL_writeOrder_7 : decode cL_writeOrder 7 = .ok (.bipush (-13), 2) := by decide +kernel
theorem dL_writeOrder_9 : decode cL_writeOrder 9 = .ok (.ireturn, 1) := by decide +kernel
theorem dL_lineAt_0 : decode cL_lineAt 0 = .ok (.aload_n 0, 1) := by decide +kernel
theorem dL_lineAt_1 : decode cL_lineAt 1 = .ok (.iload_n 1, 1) := by decide +kernel
theorem dL_lineAt_2 : decode cL_lineAt 2 = .ok (.invokevirtual 125, 3) := by decide +kernel
theorem dL_lineAt_5 : decode cL_lineAt 5 = .ok (.ireturn, 1) := by decide +kernel
theorem dL_lineAt_6 : decode cL_lineAt 6 = .ok (.astore_n 2, 1) := by decide +kernel
theorem dL_lineAt_7 : decode cL_lineAt 7 = .ok (.bipush (-11), 2) := by decide +kernel
theorem dL_lineAt_9 : decode cL_lineAt 9 = .ok (.ireturn, 1) := by decide +kernel
theorem dL_type_0 : decode cL_type 0 = .ok (.aload_n 0, 1) := by decide +kernel
theorem dL_type_1 : decode cL_type 1 = .ok (.iload_n 1, 1) := by decide +kernel
theorem dL_type_2 : decode cL_type 2 = .ok (.invokevirtual 129, 3) := by decide +kernel
theorem dL_type_5 : decode cL_type 5 = .ok (.ireturn, 1) := by decide +kernel
theorem dL_type_6 : decode cL_type 6 = .ok (.astore_n 2, 1) := by decide +kernel
theorem dL_type_7 : decode cL_type 7 = .ok (.bipush (-12), 2) := by decide +kernel
theorem dL_type_9 : decode cL_type 9 = .ok (.ireturn, 1) := by decide +kernel
theorem dL_type_10 : decode cL_type 10 = .ok (.astore_n 2, 1) := by decide +kernel
theorem dL_type_11 : decode cL_type 11 = .ok (.bipush (-14), 2) := by decide +kernel
theorem dL_type_13 : decode cL_type 13 = .ok (.ireturn, 1) := by decide +kernel
theorem dL_executes_0 : decode cL_executes 0 = .ok (.aload_n 0, 1) := by decide +kernel
theorem dL_executes_1 : decode cL_executes 1 = .ok (.invokevirtual 133, 3) := by decide +kernel
theorem dL_executes_4 : decode cL_executes 4 = .ok (.ireturn, 1) := by decide +kernel
theorem dL_executes_5 : decode cL_executes 5 = .ok (.astore_n 1, 1) := by decide +kernel
theorem dL_executes_6 : decode cL_executes 6 = .ok (.iconst (-1), 1) := by decide +kernel
theorem dL_executes_7 : decode cL_executes 7 = .ok (.ireturn, 1) := by decide +kernel
theorem dL_executes_8 : decode cL_executes 8 = .ok (.astore_n 1, 1) := by decide +kernel
theorem dL_executes_9 : decode cL_executes 9 = .ok (.bipush (-2), 2) := by decide +kernel
theorem dL_executes_11 : decode cL_executes 11 = .ok (.ireturn, 1) := by decide +kernel
theorem dL_undo_0 : decode cL_undo 0 = .ok (.aload_n 0, 1) := by decide +kernel
theorem dL_undo_1 : decode cL_undo 1 = .ok (.invokevirtual 142, 3) := by decide +kernel
theorem dL_undo_4 : decode cL_undo 4 = .ok (.ireturn, 1) := by decide +kernel
theorem dL_undo_5 : decode cL_undo 5 = .ok (.astore_n 1, 1) := by decide +kernel
theorem dL_undo_6 : decode cL_undo 6 = .ok (.iconst (-1), 1) := by decide +kernel
theorem dL_undo_7 : decode cL_undo 7 = .ok (.ireturn, 1) := by decide +kernel
theorem dL_execute_0 : decode cL_execute 0 = .ok (.iconst 0, 1) := by decide +kernel
theorem dL_execute_1 : decode cL_execute 1 = .ok (.istore_n 2, 1) := by decide +kernel
theorem dL_execute_2 : decode cL_execute 2 = .ok (.iload_n 2, 1) := by decide +kernel
theorem dL_execute_3 : decode cL_execute 3 = .ok (.aload_n 1, 1) := by decide +kernel
theorem dL_execute_4 : decode cL_execute 4 = .ok (.invokevirtual 145, 3) := by decide +kernel
theorem dL_execute_7 : decode cL_execute 7 = .ok (.if_icmp .ge 27, 3) := by decide +kernel
theorem dL_execute_10 : decode cL_execute 10 = .ok (.aload_n 0, 1) := by decide +kernel
theorem dL_execute_11 : decode cL_execute 11 = .ok (.aload_n 1, 1) := by decide +kernel
theorem dL_execute_12 : decode cL_execute 12 = .ok (.iload_n 2, 1) := by decide +kernel
theorem dL_execute_13 : decode cL_execute 13 = .ok (.invokevirtual 150, 3) := by decide +kernel
theorem dL_execute_16 : decode cL_execute 16 = .ok (.invokestatic 153, 3) := by decide +kernel
theorem dL_execute_19 : decode cL_execute 19 = .ok (.iload_n 2, 1) := by decide +kernel
theorem dL_execute_20 : decode cL_execute 20 = .ok (.iconst 1, 1) := by decide +kernel
theorem dL_execute_21 : decode cL_execute 21 = .ok (.iadd, 1) := by decide +kernel
theorem dL_execute_22 : decode cL_execute 22 = .ok (.if_icmp .eq 6, 3) := by decide +kernel
theorem dL_execute_25 : decode cL_execute 25 = .ok (.bipush (-9), 2) := by decide +kernel
theorem dL_execute_27 : decode cL_execute 27 = .ok (.ireturn, 1) := by decide +kernel
theorem dL_execute_28 : decode cL_execute 28 = .ok (.iinc 2 1, 3) := by decide +kernel
theorem dL_execute_31 : decode cL_execute 31 = .ok (.goto (-29), 3) := by decide +kernel
theorem dL_execute_34 : decode cL_execute 34 = .ok (.aload_n 0, 1) := by decide +kernel
theorem dL_execute_35 : decode cL_execute 35 = .ok (.invokestatic 158, 3) := by decide +kernel
theorem dL_execute_38 : decode cL_execute 38 = .ok (.ireturn, 1) := by decide +kernel
theorem dL_spells_0 : decode cL_spells 0 = .ok (.iload_n 1, 1) := by decide +kernel
theorem dL_spells_1 : decode cL_spells 1 = .ok (.aload_n 2, 1) := by decide +kernel
theorem dL_spells_2 : decode cL_spells 2 = .ok (.invokevirtual 145, 3) := by decide +kernel
theorem dL_spells_5 : decode cL_spells 5 = .ok (.if_icmp .ne 7, 3) := by decide +kernel
theorem dL_spells_8 : decode cL_spells 8 = .ok (.iconst 1, 1) := by decide +kernel
theorem dL_spells_9 : decode cL_spells 9 = .ok (.goto 4, 3) := by decide +kernel
theorem dL_spells_12 : decode cL_spells 12 = .ok (.iconst 0, 1) := by decide +kernel
theorem dL_spells_13 : decode cL_spells 13 = .ok (.istore_n 3, 1) := by decide +kernel
theorem dL_spells_14 : decode cL_spells 14 = .ok (.iconst 0, 1) := by decide +kernel
theorem dL_spells_15 : decode cL_spells 15 = .ok (.istore 4, 2) := by decide +kernel
theorem dL_spells_17 : decode cL_spells 17 = .ok (.iload 4, 2) := by decide +kernel
theorem dL_spells_19 : decode cL_spells 19 = .ok (.aload_n 2, 1) := by decide +kernel
theorem dL_spells_20 : decode cL_spells 20 = .ok (.invokevirtual 145, 3) := by decide +kernel
theorem dL_spells_23 : decode cL_spells 23 = .ok (.if_icmp .ge 34, 3) := by decide +kernel
theorem dL_spells_26 : decode cL_spells 26 = .ok (.iload_n 3, 1) := by decide +kernel
theorem dL_spells_27 : decode cL_spells 27 = .ok (.ifCond .eq 30, 3) := by decide +kernel
theorem dL_spells_30 : decode cL_spells 30 = .ok (.aload_n 0, 1) := by decide +kernel
theorem dL_spells_31 : decode cL_spells 31 = .ok (.iload 4, 2) := by decide +kernel
theorem dL_spells_33 : decode cL_spells 33 = .ok (.invokestatic 303, 3) := by decide +kernel
theorem dL_spells_36 : decode cL_spells 36 = .ok (.aload_n 2, 1) := by decide +kernel
theorem dL_spells_37 : decode cL_spells 37 = .ok (.iload 4, 2) := by decide +kernel
theorem dL_spells_39 : decode cL_spells 39 = .ok (.invokevirtual 150, 3) := by decide +kernel
theorem dL_spells_42 : decode cL_spells 42 = .ok (.if_icmp .ne 7, 3) := by decide +kernel
theorem dL_spells_45 : decode cL_spells 45 = .ok (.iconst 1, 1) := by decide +kernel
theorem dL_spells_46 : decode cL_spells 46 = .ok (.goto 4, 3) := by decide +kernel
theorem dL_spells_49 : decode cL_spells 49 = .ok (.iconst 0, 1) := by decide +kernel
theorem dL_spells_50 : decode cL_spells 50 = .ok (.istore_n 3, 1) := by decide +kernel
theorem dL_spells_51 : decode cL_spells 51 = .ok (.iinc 4 1, 3) := by decide +kernel
theorem dL_spells_54 : decode cL_spells 54 = .ok (.goto (-37), 3) := by decide +kernel
theorem dL_spells_57 : decode cL_spells 57 = .ok (.iload_n 3, 1) := by decide +kernel
theorem dL_spells_58 : decode cL_spells 58 = .ok (.ifCond .eq 17, 3) := by decide +kernel
theorem dL_spells_61 : decode cL_spells 61 = .ok (.aload_n 0, 1) := by decide +kernel
theorem dL_spells_62 : decode cL_spells 62 = .ok (.iload_n 1, 1) := by decide +kernel
theorem dL_spells_63 : decode cL_spells 63 = .ok (.invokestatic 303, 3) := by decide +kernel
theorem dL_spells_66 : decode cL_spells 66 = .ok (.bipush (-11), 2) := by decide +kernel
theorem dL_spells_68 : decode cL_spells 68 = .ok (.if_icmp .ne 7, 3) := by decide +kernel
theorem dL_spells_71 : decode cL_spells 71 = .ok (.iconst 1, 1) := by decide +kernel
theorem dL_spells_72 : decode cL_spells 72 = .ok (.goto 4, 3) := by decide +kernel
theorem dL_spells_75 : decode cL_spells 75 = .ok (.iconst 0, 1) := by decide +kernel
theorem dL_spells_76 : decode cL_spells 76 = .ok (.ireturn, 1) := by decide +kernel
