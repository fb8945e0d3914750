/-! The wrappers of the law: decode rows, classes of exceptions; totals -/
set_option maxHeartbeats 4000000 in
set_option maxRecDepth 100000 in
theorem k11_totalMoney {l : Launch} {G : Gx} (hF : SF l G) {K : Nat → Nat → Nat} {S : SV} {F : Nat → Int32} {X : va_W} : MI l G yX11_totalMoney cX11_totalMoney 1 .int 2 0 0 [.ref (K 7 0)] (stW G (K 0) S ++ (dmO G K F ++ X)) (fun r _ => r = rsum 6 (S.2.1 0)) (fun _ : Unit => stW G (K 0) S ++ (dmO G K F ++ X)) := by
  refine mt_of hF (by decide) (Nat.le_of_ble_eq_true rfl) ?_
  intro p e s m below meth c C hin ls hl H locs hw
  have hl : lv_has ls 1 [(0, .ref (K 7 0))] := hl
  refine lv_aload_n C.1 C.2.1 dX11_totalMoney_0 rfl (lv_at hl 0 rfl) ?_
  refine r_get C hw 19 rfl rfl in_X11 0 (by decide) fl_X11_10 rfl (v := .ref (K 0 0)) rfl dX11_totalMoney_1 ?_
  refine r_get C hw 0 rfl rfl in_X9 0 (by decide) fl_X11_73 rfl (v := .ref (K 0 1)) rfl dX11_totalMoney_4 ?_
  refine r_get C hw 1 rfl rfl in_X8 0 (by decide) fl_X11_130 rfl (v := .ref (K 0 2)) rfl dX11_totalMoney_7 ?_
  refine r_vi C hw (k7_sum hF (strow_0 G (K 0) S (dmO G K F ++ X)) (by decide) (strow_e G (K 0) S (dmO G K F ++ X) 0)) ml_X11_148 yf_X7_sum 2 rfl rfl (As := []) rfl rfl ⟨(Nat.le_of_ble_eq_true rfl), (Nat.le_of_ble_eq_true rfl)⟩ ⟨(Nat.le_of_ble_eq_true rfl), (Nat.le_of_ble_eq_true rfl)⟩ hl.1 (Nat.le_of_ble_eq_true rfl) dX11_totalMoney_10 (fun r_10 _ H locs hp_10 hw => ?_)
  obtain rfl : r_10 = rsum 6 (S.2.1 0) := hp_10
  replace hw : WH G s (stW G (K 0) S ++ (dmO G K F ++ X)) H locs := hw
  exact r_iret C hw rfl rfl () (rfl) rfl (Nat.le_of_ble_eq_true rfl) (Nat.le_of_ble_eq_true rfl) dX11_totalMoney_13

set_option maxHeartbeats 4000000 in
set_option maxRecDepth 100000 in
theorem k11_totalDrops {l : Launch} {G : Gx} (hF : SF l G) {K : Nat → Nat → Nat} {S : SV} {F : Nat → Int32} {X : va_W} : MI l G yX11_totalDrops cX11_totalDrops 1 .int 2 0 0 [.ref (K 7 0)] (stW G (K 0) S ++ (dmO G K F ++ X)) (fun r _ => r = rsum 6 (S.2.1 1)) (fun _ : Unit => stW G (K 0) S ++ (dmO G K F ++ X)) := by
  refine mt_of hF (by decide) (Nat.le_of_ble_eq_true rfl) ?_
  intro p e s m below meth c C hin ls hl H locs hw
  have hl : lv_has ls 1 [(0, .ref (K 7 0))] := hl
  refine lv_aload_n C.1 C.2.1 dX11_totalDrops_0 rfl (lv_at hl 0 rfl) ?_
  refine r_get C hw 19 rfl rfl in_X11 0 (by decide) fl_X11_10 rfl (v := .ref (K 0 0)) rfl dX11_totalDrops_1 ?_
  refine r_get C hw 0 rfl rfl in_X9 0 (by decide) fl_X11_73 rfl (v := .ref (K 0 1)) rfl dX11_totalDrops_4 ?_
  refine r_get C hw 1 rfl rfl in_X8 1 (by decide) fl_X11_139 rfl (v := .ref (K 0 4)) rfl dX11_totalDrops_7 ?_
  refine r_vi C hw (k7_sum hF (strow_1 G (K 0) S (dmO G K F ++ X)) (by decide) (strow_e G (K 0) S (dmO G K F ++ X) 1)) ml_X11_148 yf_X7_sum 4 rfl rfl (As := []) rfl rfl ⟨(Nat.le_of_ble_eq_true rfl), (Nat.le_of_ble_eq_true rfl)⟩ ⟨(Nat.le_of_ble_eq_true rfl), (Nat.le_of_ble_eq_true rfl)⟩ hl.1 (Nat.le_of_ble_eq_true rfl) dX11_totalDrops_10 (fun r_10 _ H locs hp_10 hw => ?_)
  obtain rfl : r_10 = rsum 6 (S.2.1 1) := hp_10
  replace hw : WH G s (stW G (K 0) S ++ (dmO G K F ++ X)) H locs := hw
  exact r_iret C hw rfl rfl () (rfl) rfl (Nat.le_of_ble_eq_true rfl) (Nat.le_of_ble_eq_true rfl) dX11_totalDrops_13

theorem dL_addStall_0 : decode cL_addStall 0 = .ok (.aload_n 3, 1) := by decide +kernel
theorem dL_addStall_1 : decode cL_addStall 1 = .ok (.iconst 0, 1) := by decide +kernel
theorem dL_addStall_2 : decode cL_addStall 2 = .ok (.aload_n 0, 1) := by decide +kernel
theorem dL_addStall_3 : decode cL_addStall 3 = .ok (.iload_n 1, 1) := by decide +kernel
theorem dL_addStall_4 : decode cL_addStall 4 = .ok (.iload_n 2, 1) := by decide +kernel
theorem dL_addStall_5 : decode cL_addStall 5 = .ok (.invokevirtual 7, 3) := by decide +kernel
theorem dL_addStall_8 : decode cL_addStall 8 = .ok (.i2l, 1) := by decide +kernel
theorem dL_addStall_9 : decode cL_addStall 9 = .ok (.lastore, 1) := by decide +kernel
theorem dL_addStall_10 : decode cL_addStall 10 = .ok (.goto 11, 3) := by decide +kernel
theorem dL_addStall_13 : decode cL_addStall 13 = .ok (.astore 4, 2) := by decide +kernel
theorem dL_addStall_15 : decode cL_addStall 15 = .ok (.iconst 1, 1) := by decide +kernel
theorem dL_addStall_16 : decode cL_addStall 16 = .ok (.ireturn, 1) := by decide +kernel
theorem dL_addStall_17 : decode cL_addStall 17 = .ok (.astore 4, 2) := by decide +kernel
theorem dL_addStall_19 : decode cL_addStall 19 = .ok (.iconst 2, 1) := by decide +kernel
theorem dL_addStall_20 : decode cL_addStall 20 = .ok (.ireturn, 1) := by decide +kernel
theorem dL_addStall_21 : decode cL_addStall 21 = .ok (.iconst 0, 1) := by decide +kernel
theorem dL_addStall_22 : decode cL_addStall 22 = .ok (.ireturn, 1) := by decide +kernel
theorem dL_placeBuy_0 : decode cL_placeBuy 0 = .ok (.aload 4, 2) := by decide +kernel
theorem dL_placeBuy_2 : decode cL_placeBuy 2 = .ok (.iconst 0, 1) := by decide +kernel
theorem dL_placeBuy_3 : decode cL_placeBuy 3 = .ok (.aload_n 0, 1) := by decide +kernel
theorem dL_placeBuy_4 : decode cL_placeBuy 4 = .ok (.iload_n 1, 1) := by decide +kernel
theorem dL_placeBuy_5 : decode cL_placeBuy 5 = .ok (.iload_n 2, 1) := by decide +kernel
theorem dL_placeBuy_6 : decode cL_placeBuy 6 = .ok (.iload_n 3, 1) := by decide +kernel
theorem dL_placeBuy_7 : decode cL_placeBuy 7 = .ok (.invokevirtual 17, 3) := by decide +kernel
theorem dL_placeBuy_10 : decode cL_placeBuy 10 = .ok (.i2l, 1) := by decide +kernel
theorem dL_placeBuy_11 : decode cL_placeBuy 11 = .ok (.lastore, 1) := by decide +kernel
theorem dL_placeBuy_12 : decode cL_placeBuy 12 = .ok (.goto 19, 3) := by decide +kernel
theorem dL_placeBuy_15 : decode cL_placeBuy 15 = .ok (.astore 5, 2) := by decide +kernel
theorem dL_placeBuy_17 : decode cL_placeBuy 17 = .ok (.iconst 1, 1) := by decide +kernel
theorem dL_placeBuy_18 : decode cL_placeBuy 18 = .ok (.ireturn, 1) := by decide +kernel
theorem dL_placeBuy_19 : decode cL_placeBuy 19 = .ok (.astore 5, 2) := by decide +kernel
theorem dL_placeBuy_21 : decode cL_placeBuy 21 = .ok (.iconst 2, 1) := by decide +kernel
theorem dL_placeBuy_22 : decode cL_placeBuy 22 = .ok (.ireturn, 1) := by decide +kernel
theorem dL_placeBuy_23 : decode cL_placeBuy 23 = .ok (.astore 5, 2) := by decide +kernel
theorem dL_placeBuy_25 : decode cL_placeBuy 25 = .ok (.iconst 3, 1) := by decide +kernel
theorem dL_placeBuy_26 : decode cL_placeBuy 26 = .ok (.ireturn, 1) := by decide +kernel
theorem dL_placeBuy_27 : decode cL_placeBuy 27 = .ok (.astore 5, 2) := by decide +kernel
theorem dL_placeBuy_29 : decode cL_placeBuy 29 = .ok (.iconst 4, 1) := by decide +kernel
theorem dL_placeBuy_30 : decode cL_placeBuy 30 = .ok (.ireturn, 1) := by decide +kernel
theorem dL_placeBuy_31 : decode cL_placeBuy 31 = .ok (.iconst 0, 1) := by decide +kernel
theorem dL_placeBuy_32 : decode cL_placeBuy 32 = .ok (.ireturn, 1) := by decide +kernel
theorem dL_placeSell_0 : decode cL_placeSell 0 = .ok (.aload 4, 2) := by decide +kernel
theorem dL_placeSell_2 : decode cL_placeSell 2 = .ok (.iconst 0, 1) := by decide +kernel
theorem dL_placeSell_3 : decode cL_placeSell 3 = .ok (.aload_n 0, 1) := by decide +kernel
theorem dL_placeSell_4 : decode cL_placeSell 4 = .ok (.iload_n 1, 1) := by decide +kernel
theorem dL_placeSell_5 : decode cL_placeSell 5 = .ok (.iload_n 2, 1) := by decide +kernel
theorem dL_placeSell_6 : decode cL_placeSell 6 = .ok (.iload_n 3, 1) := by decide +kernel
theorem dL_placeSell_7 : decode cL_placeSell 7 = .ok (.invokevirtual 25, 3) := by decide +kernel
theorem dL_placeSell_10 : decode cL_placeSell 10 = .ok (.i2l, 1) := by decide +kernel
theorem dL_placeSell_11 : decode cL_placeSell 11 = .ok (.lastore, 1) := by decide +kernel
theorem dL_placeSell_12 : decode cL_placeSell 12 = .ok (.goto 19, 3) := by decide +kernel
theorem dL_placeSell_15 : decode cL_placeSell 15 = .ok (.astore 5, 2) := by decide +kernel
theorem dL_placeSell_17 : decode cL_placeSell 17 = .ok (.iconst 1, 1) := by decide +kernel
theorem dL_placeSell_18 : decode cL_placeSell 18 = .ok (.ireturn, 1) := by decide +kernel
theorem dL_placeSell_19 : decode cL_placeSell 19 = .ok (.astore 5, 2) := by decide +kernel
theorem dL_placeSell_21 : decode cL_placeSell 21 = .ok (.iconst 2, 1) := by decide +kernel
theorem dL_placeSell_22 : decode cL_placeSell 22 = .ok (.ireturn, 1) := by decide +kernel
theorem dL_placeSell_23 : decode cL_placeSell 23 = .ok (.astore 5, 2) := by decide +kernel
theorem dL_placeSell_25 : decode cL_placeSell 25 = .ok (.iconst 3, 1) := by decide +kernel
theorem dL_placeSell_26 : decode cL_placeSell 26 = .ok (.ireturn, 1) := by decide +kernel
theorem dL_placeSell_27 : decode cL_placeSell 27 = .ok (.astore 5, 2) := by decide +kernel
theorem dL_placeSell_29 : decode cL_placeSell 29 = .ok (.iconst 4, 1) := by decide +kernel
theorem dL_placeSell_30 : decode cL_placeSell 30 = .ok (.ireturn, 1) := by decide +kernel
theorem dL_placeSell_31 : decode cL_placeSell 31 = .ok (.iconst 0, 1) := by decide +kernel
theorem dL_placeSell_32 : decode cL_placeSell 32 = .ok (.ireturn, 1) := by decide +kernel
theorem dL_placeBuyFor_0 : decode cL_placeBuyFor 0 = .ok (.aload 5, 2) := by decide +kernel
theorem dL_placeBuyFor_2 : decode cL_placeBuyFor 2 = .ok (.iconst 0, 1) := by decide +kernel
theorem dL_placeBuyFor_3 : decode cL_placeBuyFor 3 = .ok (.aload_n 0, 1) := by decide +kernel
theorem dL_placeBuyFor_4 : decode cL_placeBuyFor 4 = .ok (.iload_n 1, 1) := by decide +kernel
theorem dL_placeBuyFor_5 : decode cL_placeBuyFor 5 = .ok (.iload_n 2, 1) := by decide +kernel
theorem dL_placeBuyFor_6 : decode cL_placeBuyFor 6 = .ok (.iload_n 3, 1) := by decide +kernel
theorem dL_placeBuyFor_7 : decode cL_placeBuyFor 7 = .ok (.iload 4, 2) := by decide +kernel
theorem dL_placeBuyFor_9 : decode cL_placeBuyFor 9 = .ok (.invokevirtual 28, 3) := by decide +kernel
theorem dL_placeBuyFor_12 : decode cL_placeBuyFor 12 = .ok (.i2l, 1) := by decide +kernel
theorem dL_placeBuyFor_13 : decode cL_placeBuyFor 13 = .ok (.lastore, 1) := by decide +kernel
theorem dL_placeBuyFor_14 : decode cL_placeBuyFor 14 = .ok (.goto 19, 3) := by decide +kernel
theorem dL_placeBuyFor_17 : decode cL_placeBuyFor 17 = .ok (.astore 6, 2) := by decide +kernel
theorem dL_placeBuyFor_19 : decode cL_placeBuyFor 19 = .ok (.iconst 1, 1) := by decide +kernel
theorem dL_placeBuyFor_20 : decode cL_placeBuyFor 20 = .ok (.ireturn, 1) := by decide +kernel
theorem dL_placeBuyFor_21 : decode cL_placeBuyFor 21 = .ok (.astore 6, 2) := by decide +kernel
theorem dL_placeBuyFor_23 : decode cL_placeBuyFor 23 = .ok (.iconst 2, 1) := by decide +kernel
theorem dL_placeBuyFor_24 : decode cL_placeBuyFor 24 = .ok (.ireturn, 1) := by decide +kernel
theorem dL_placeBuyFor_25 : decode cL_placeBuyFor 25 = .ok (.astore 6, 2) := by decide +kernel
theorem dL_placeBuyFor_27 : decode cL_placeBuyFor 27 = .ok (.iconst 3, 1) := by decide +kernel
theorem dL_placeBuyFor_28 : decode cL_placeBuyFor 28 = .ok (.ireturn, 1) := by decide +kernel
theorem dL_placeBuyFor_29 : decode cL_placeBuyFor 29 = .ok (.astore 6, 2) := by decide +kernel
theorem dL_placeBuyFor_31 : decode cL_placeBuyFor 31 = .ok (.iconst 4, 1) := by decide +kernel
theorem dL_placeBuyFor_32 : decode cL_placeBuyFor 32 = .ok (.ireturn, 1) := by decide +kernel
theorem dL_placeBuyFor_33 : decode cL_placeBuyFor 33 = .ok (.iconst 0, 1) := by decide +kernel
theorem dL_placeBuyFor_34 : decode cL_placeBuyFor 34 = .ok (.ireturn, 1) := by decide +kernel
theorem dL_placeSellFor_0 : decode cL_placeSellFor 0 = .ok (.aload 5, 2) := by decide +kernel
theorem dL_placeSellFor_2 : decode cL_placeSellFor 2 = .ok (.iconst 0, 1) := by decide +kernel
theorem dL_placeSellFor_3 : decode cL_placeSellFor 3 = .ok (.aload_n 0, 1) := by decide +kernel
theorem dL_placeSellFor_4 : decode cL_placeSellFor 4 = .ok (.iload_n 1, 1) := by decide +kernel
theorem dL_placeSellFor_5 : decode cL_placeSellFor 5 = .ok (.iload_n 2, 1) := by decide +kernel
theorem dL_placeSellFor_6 : decode cL_placeSellFor 6 = .ok (.iload_n 3, 1) := by decide +kernel
theorem dL_placeSellFor_7 : decode cL_placeSellFor 7 = .ok (.iload 4, 2) := by decide +kernel
theorem dL_placeSellFor_9 : decode cL_placeSellFor 9 = .ok (.invokevirtual 32, 3) := by decide +kernel
theorem dL_placeSellFor_12 : decode cL_placeSellFor 12 = .ok (.i2l, 1) := by decide +kernel
theorem dL_placeSellFor_13 : decode cL_placeSellFor 13 = .ok (.lastore, 1) := by decide +kernel
theorem dL_placeSellFor_14 : decode cL_placeSellFor 14 = .ok (.goto 19, 3) := by decide +kernel
theorem dL_placeSellFor_17 : decode cL_placeSellFor 17 = .ok (.astore 6, 2) := by decide +kernel
theorem dL_placeSellFor_19 : decode cL_placeSellFor 19 = .ok (.iconst 1, 1) := by decide +kernel
theorem dL_placeSellFor_20 : decode cL_placeSellFor 20 = .ok (.ireturn, 1) := by decide +kernel
theorem dL_placeSellFor_21 : decode cL_placeSellFor 21 = .ok (.astore 6, 2) := by decide +kernel
theorem dL_placeSellFor_23 : decode cL_placeSellFor 23 = .ok (.iconst 2, 1) := by decide +kernel
theorem dL_placeSellFor_24 : decode cL_placeSellFor 24 = .ok (.ireturn, 1) := by decide +kernel
theorem dL_placeSellFor_25 : decode cL_placeSellFor 25 = .ok (.astore 6, 2) := by decide +kernel
theorem dL_placeSellFor_27 : decode cL_placeSellFor 27 = .ok (.iconst 3, 1) := by decide +kernel
theorem dL_placeSellFor_28 : decode cL_placeSellFor 28 = .ok (.ireturn, 1) := by decide +kernel
theorem dL_placeSellFor_29 : decode cL_placeSellFor 29 = .ok (.astore 6, 2) := by decide +kernel
theorem dL_placeSellFor_31 : decode cL_placeSellFor 31 = .ok (.iconst 4, 1) := by decide +kernel
theorem dL_placeSellFor_32 : decode cL_placeSellFor 32 = .ok (.ireturn, 1) := by decide +kernel
theorem dL_placeSellFor_33 : decode cL_placeSellFor 33 = .ok (.iconst 0, 1) := by decide +kernel
theorem dL_placeSellFor_34 : decode cL_placeSellFor 34 = .ok (.ireturn, 1) := by decide +kernel
theorem dL_takeBuy_0 : decode cL_takeBuy 0 = .ok (.aload 4, 2) := by decide +kernel
theorem dL_takeBuy_2 : decode cL_takeBuy 2 = .ok (.iconst 0, 1) := by decide +kernel
theorem dL_takeBuy_3 : decode cL_takeBuy 3 = .ok (.aload_n 0, 1) := by decide +kernel
theorem dL_takeBuy_4 : decode cL_takeBuy 4 = .ok (.iload_n 1, 1) := by decide +kernel
theorem dL_takeBuy_5 : decode cL_takeBuy 5 = .ok (.iload_n 2, 1) := by decide +kernel
theorem dL_takeBuy_6 : decode cL_takeBuy 6 = .ok (.iload_n 3, 1) := by decide +kernel
theorem dL_takeBuy_7 : decode cL_takeBuy 7 = .ok (.invokevirtual 35, 3) := by decide +kernel
theorem dL_takeBuy_10 : decode cL_takeBuy 10 = .ok (.i2l, 1) := by decide +kernel
theorem dL_takeBuy_11 : decode cL_takeBuy 11 = .ok (.lastore, 1) := by decide +kernel
theorem dL_takeBuy_12 : decode cL_takeBuy 12 = .ok (.goto 19, 3) := by decide +kernel
theorem dL_takeBuy_15 : decode cL_takeBuy 15 = .ok (.astore 5, 2) := by decide +kernel
theorem dL_takeBuy_17 : decode cL_takeBuy 17 = .ok (.iconst 1, 1) := by decide +kernel
theorem dL_takeBuy_18 : decode cL_takeBuy 18 = .ok (.ireturn, 1) := by decide +kernel
theorem dL_takeBuy_19 : decode cL_takeBuy 19 = .ok (.astore 5, 2) := by decide +kernel
theorem dL_takeBuy_21 : decode cL_takeBuy 21 = .ok (.iconst 2, 1) := by decide +kernel
theorem dL_takeBuy_22 : decode cL_takeBuy 22 = .ok (.ireturn, 1) := by decide +kernel
theorem dL_takeBuy_23 : decode cL_takeBuy 23 = .ok (.astore 5, 2) := by decide +kernel
theorem dL_takeBuy_25 : decode cL_takeBuy 25 = .ok (.iconst 3, 1) := by decide +kernel
theorem dL_takeBuy_26 : decode cL_takeBuy 26 = .ok (.ireturn, 1) := by decide +kernel
theorem dL_takeBuy_27 : decode cL_takeBuy 27 = .ok (.astore 5, 2) := by decide +kernel
theorem dL_takeBuy_29 : decode cL_takeBuy 29 = .ok (.iconst 4, 1) := by decide +kernel
theorem dL_takeBuy_30 : decode cL_takeBuy 30 = .ok (.ireturn, 1) := by decide +kernel
theorem dL_takeBuy_31 : decode cL_takeBuy 31 = .ok (.iconst 0, 1) := by decide +kernel
theorem dL_takeBuy_32 : decode cL_takeBuy 32 = .ok (.ireturn, 1) := by decide +kernel
theorem dL_takeSell_0 : decode cL_takeSell 0 = .ok (.aload 4, 2) := by decide +kernel
theorem dL_takeSell_2 : decode cL_takeSell 2 = .ok (.iconst 0, 1) := by decide +kernel
theorem dL_takeSell_3 : decode cL_takeSell 3 = .ok (.aload_n 0, 1) := by decide +kernel
theorem dL_takeSell_4 : decode cL_takeSell 4 = .ok (.iload_n 1, 1) := by decide +kernel
theorem dL_takeSell_5 : decode cL_takeSell 5 = .ok (.iload_n 2, 1) := by decide +kernel
theorem dL_takeSell_6 : decode cL_takeSell 6 = .ok (.iload_n 3, 1) := by decide +kernel
theorem dL_takeSell_7 : decode cL_takeSell 7 = .ok (.invokevirtual 38, 3) := by decide +kernel
theorem dL_takeSell_10 : decode cL_takeSell 10 = .ok (.i2l, 1) := by decide +kernel
theorem dL_takeSell_11 : decode cL_takeSell 11 = .ok (.lastore, 1) := by decide +kernel
theorem dL_takeSell_12 : decode cL_takeSell 12 = .ok (.goto 19, 3) := by decide +kernel
theorem dL_takeSell_15 : decode cL_takeSell 15 = .ok (.astore 5, 2) := by decide +kernel
theorem dL_takeSell_17 : decode cL_takeSell 17 = .ok (.iconst 1, 1) := by decide +kernel
theorem dL_takeSell_18 : decode cL_takeSell 18 = .ok (.ireturn, 1) := by decide +kernel
theorem dL_takeSell_19 : decode cL_takeSell 19 = .ok (.astore 5, 2) := by decide +kernel
theorem dL_takeSell_21 : decode cL_takeSell 21 = .ok (.iconst 2, 1) := by decide +kernel
theorem dL_takeSell_22 : decode cL_takeSell 22 = .ok (.ireturn, 1) := by decide +kernel
theorem dL_takeSell_23 : decode cL_takeSell 23 = .ok (.astore 5, 2) := by decide +kernel
theorem dL_takeSell_25 : decode cL_takeSell 25 = .ok (.iconst 3, 1) := by decide +kernel
theorem dL_takeSell_26 : decode cL_takeSell 26 = .ok (.ireturn, 1) := by decide +kernel
theorem dL_takeSell_27 : decode cL_takeSell 27 = .ok (.astore 5, 2) := by decide +kernel
theorem dL_takeSell_29 : decode cL_takeSell 29 = .ok (.iconst 4, 1) := by decide +kernel
theorem dL_takeSell_30 : decode cL_takeSell 30 = .ok (.ireturn, 1) := by decide +kernel
theorem dL_takeSell_31 : decode cL_takeSell 31 = .ok (.iconst 0, 1) := by decide +kernel
theorem dL_takeSell_32 : decode cL_takeSell 32 = .ok (.ireturn, 1) := by decide +kernel
theorem dL_cancel_0 : decode cL_cancel 0 = .ok (.aload_n 2, 1) := by decide +kernel
theorem dL_cancel_1 : decode cL_cancel 1 = .ok (.iconst 0, 1) := by decide +kernel
theorem dL_cancel_2 : decode cL_cancel 2 = .ok (.aload_n 0, 1) := by decide +kernel
theorem dL_cancel_3 : decode cL_cancel 3 = .ok (.iload_n 1, 1) := by decide +kernel
theorem dL_cancel_4 : decode cL_cancel 4 = .ok (.invokevirtual 41, 3) := by decide +kernel
theorem dL_cancel_7 : decode cL_cancel 7 = .ok (.i2l, 1) := by decide +kernel
theorem dL_cancel_8 : decode cL_cancel 8 = .ok (.lastore, 1) := by decide +kernel
theorem dL_cancel_9 : decode cL_cancel 9 = .ok (.goto 6, 3) := by decide +kernel
theorem dL_cancel_12 : decode cL_cancel 12 = .ok (.astore_n 3, 1) := by decide +kernel
theorem dL_cancel_13 : decode cL_cancel 13 = .ok (.iconst 1, 1) := by decide +kernel
theorem dL_cancel_14 : decode cL_cancel 14 = .ok (.ireturn, 1) := by decide +kernel
theorem dL_cancel_15 : decode cL_cancel 15 = .ok (.iconst 0, 1) := by decide +kernel
theorem dL_cancel_16 : decode cL_cancel 16 = .ok (.ireturn, 1) := by decide +kernel
theorem dL_pass_0 : decode cL_pass 0 = .ok (.aload_n 2, 1) := by decide +kernel
theorem dL_pass_1 : decode cL_pass 1 = .ok (.iconst 0, 1) := by decide +kernel
theorem dL_pass_2 : decode cL_pass 2 = .ok (.aload_n 0, 1) := by decide +kernel
theorem dL_pass_3 : decode cL_pass 3 = .ok (.iload_n 1, 1) := by decide +kernel
theorem dL_pass_4 : decode cL_pass 4 = .ok (.invokevirtual 47, 3) := by decide +kernel
theorem dL_pass_7 : decode cL_pass 7 = .ok (.i2l, 1) := by decide +kernel
theorem dL_pass_8 : decode cL_pass 8 = .ok (.lastore, 1) := by decide +kernel
theorem dL_pass_9 : decode cL_pass 9 = .ok (.goto 6, 3) := by decide +kernel
theorem dL_pass_12 : decode cL_pass 12 = .ok (.astore_n 3, 1) := by decide +kernel
theorem dL_pass_13 : decode cL_pass 13 = .ok (.iconst 1, 1) := by decide +kernel
theorem dL_pass_14 : decode cL_pass 14 = .ok (.ireturn, 1) := by decide +kernel
theorem dL_pass_15 : decode cL_pass 15 = .ok (.iconst 0, 1) := by decide +kernel
theorem dL_pass_16 : decode cL_pass 16 = .ok (.ireturn, 1) := by decide +kernel
theorem dL_openPool_0 : decode cL_openPool 0 = .ok (.aload_n 1, 1) := by decide +kernel
theorem dL_openPool_1 : decode cL_openPool 1 = .ok (.iconst 0, 1) := by decide +kernel
theorem dL_openPool_2 : decode cL_openPool 2 = .ok (.aload_n 0, 1) := by decide +kernel
theorem dL_openPool_3 : decode cL_openPool 3 = .ok (.invokevirtual 50, 3) := by decide +kernel
theorem dL_openPool_6 : decode cL_openPool 6 = .ok (.i2l, 1) := by decide +kernel
theorem dL_openPool_7 : decode cL_openPool 7 = .ok (.lastore, 1) := by decide +kernel
theorem dL_openPool_8 : decode cL_openPool 8 = .ok (.goto 6, 3) := by decide +kernel
theorem dL_openPool_11 : decode cL_openPool 11 = .ok (.astore_n 2, 1) := by decide +kernel
theorem dL_openPool_12 : decode cL_openPool 12 = .ok (.iconst 1, 1) := by decide +kernel
theorem dL_openPool_13 : decode cL_openPool 13 = .ok (.ireturn, 1) := by decide +kernel
theorem dL_openPool_14 : decode cL_openPool 14 = .ok (.iconst 0, 1) := by decide +kernel
theorem dL_openPool_15 : decode cL_openPool 15 = .ok (.ireturn, 1) := by decide +kernel
theorem dL_closePool_0 : decode cL_closePool 0 = .ok (.aload_n 1, 1) := by decide +kernel
theorem dL_closePool_1 : decode cL_closePool 1 = .ok (.iconst 0, 1) := by decide +kernel
theorem dL_closePool_2 : decode cL_closePool 2 = .ok (.aload_n 0, 1) := by decide +kernel
theorem dL_closePool_3 : decode cL_closePool 3 = .ok (.invokevirtual 54, 3) := by decide +kernel
theorem dL_closePool_6 : decode cL_closePool 6 = .ok (.i2l, 1) := by decide +kernel
theorem dL_closePool_7 : decode cL_closePool 7 = .ok (.lastore, 1) := by decide +kernel
theorem dL_closePool_8 : decode cL_closePool 8 = .ok (.goto 6, 3) := by decide +kernel
theorem dL_closePool_11 : decode cL_closePool 11 = .ok (.astore_n 2, 1) := by decide +kernel
theorem dL_closePool_12 : decode cL_closePool 12 = .ok (.iconst 1, 1) := by decide +kernel
theorem dL_closePool_13 : decode cL_closePool 13 = .ok (.ireturn, 1) := by decide +kernel
theorem dL_closePool_14 : decode cL_closePool 14 = .ok (.iconst 0, 1) := by decide +kernel
theorem dL_closePool_15 : decode cL_closePool 15 = .ok (.ireturn, 1) := by decide +kernel
theorem dL_moneyOf_0 : decode cL_moneyOf 0 = .ok (.aload_n 2, 1) := by decide +kernel
theorem dL_moneyOf_1 : decode cL_moneyOf 1 = .ok (.iconst 0, 1) := by decide +kernel
theorem dL_moneyOf_2 : decode cL_moneyOf 2 = .ok (.aload_n 0, 1) := by decide +kernel
theorem dL_moneyOf_3 : decode cL_moneyOf 3 = .ok (.iload_n 1, 1) := by decide +kernel
theorem dL_moneyOf_4 : decode cL_moneyOf 4 = .ok (.invokevirtual 57, 3) := by decide +kernel
theorem dL_moneyOf_7 : decode cL_moneyOf 7 = .ok (.i2l, 1) := by decide +kernel
theorem dL_moneyOf_8 : decode cL_moneyOf 8 = .ok (.lastore, 1) := by decide +kernel
theorem dL_moneyOf_9 : decode cL_moneyOf 9 = .ok (.goto 6, 3) := by decide +kernel
theorem dL_moneyOf_12 : decode cL_moneyOf 12 = .ok (.astore_n 3, 1) := by decide +kernel
theorem dL_moneyOf_13 : decode cL_moneyOf 13 = .ok (.iconst 1, 1) := by decide +kernel
theorem dL_moneyOf_14 : decode cL_moneyOf 14 = .ok (.ireturn, 1) := by decide +kernel
theorem dL_moneyOf_15 : decode cL_moneyOf 15 = .ok (.iconst 0, 1) := by decide +kernel
theorem dL_moneyOf_16 : decode cL_moneyOf 16 = .ok (.ireturn, 1) := by decide +kernel
theorem dL_dropsOf_0 : decode cL_dropsOf 0 = .ok (.aload_n 2, 1) := by decide +kernel
theorem dL_dropsOf_1 : decode cL_dropsOf 1 = .ok (.iconst 0, 1) := by decide +kernel
theorem dL_dropsOf_2 : decode cL_dropsOf 2 = .ok (.aload_n 0, 1) := by decide +kernel
theorem dL_dropsOf_3 : decode cL_dropsOf 3 = .ok (.iload_n 1, 1) := by decide +kernel
theorem dL_dropsOf_4 : decode cL_dropsOf 4 = .ok (.invokevirtual 60, 3) := by decide +kernel
theorem dL_dropsOf_7 : decode cL_dropsOf 7 = .ok (.i2l, 1) := by decide +kernel
theorem dL_dropsOf_8 : decode cL_dropsOf 8 = .ok (.lastore, 1) := by decide +kernel
theorem dL_dropsOf_9 : decode cL_dropsOf 9 = .ok (.goto 6, 3) := by decide +kernel
theorem dL_dropsOf_12 : decode cL_dropsOf 12 = .ok (.astore_n 3, 1) := by decide +kernel
theorem dL_dropsOf_13 : decode cL_dropsOf 13 = .ok (.iconst 1, 1) := by decide +kernel
theorem dL_dropsOf_14 : decode cL_dropsOf 14 = .ok (.ireturn, 1) := by decide +kernel
theorem dL_dropsOf_15 : decode cL_dropsOf 15 = .ok (.iconst 0, 1) := by decide +kernel
theorem dL_dropsOf_16 : decode cL_dropsOf 16 = .ok (.ireturn, 1) := by decide +kernel
theorem dL_freeMoneyOf_0 : decode cL_freeMoneyOf 0 = .ok (.aload_n 2, 1) := by decide +kernel
theorem dL_freeMoneyOf_1 : decode cL_freeMoneyOf 1 = .ok (.iconst 0, 1) := by decide +kernel
theorem dL_freeMoneyOf_2 : decode cL_freeMoneyOf 2 = .ok (.aload_n 0, 1) := by decide +kernel
theorem dL_freeMoneyOf_3 : decode cL_freeMoneyOf 3 = .ok (.iload_n 1, 1) := by decide +kernel
theorem dL_freeMoneyOf_4 : decode cL_freeMoneyOf 4 = .ok (.invokevirtual 63, 3) := by decide +kernel
theorem dL_freeMoneyOf_7 : decode cL_freeMoneyOf 7 = .ok (.i2l, 1) := by decide +kernel
theorem dL_freeMoneyOf_8 : decode cL_freeMoneyOf 8 = .ok (.lastore, 1) := by decide +kernel
theorem dL_freeMoneyOf_9 : decode cL_freeMoneyOf 9 = .ok (.goto 6, 3) := by decide +kernel
theorem dL_freeMoneyOf_12 : decode cL_freeMoneyOf 12 = .ok (.astore_n 3, 1) := by decide +kernel
theorem dL_freeMoneyOf_13 : decode cL_freeMoneyOf 13 = .ok (.iconst 1, 1) := by decide +kernel
theorem dL_freeMoneyOf_14 : decode cL_freeMoneyOf 14 = .ok (.ireturn, 1) := by decide +kernel
theorem dL_freeMoneyOf_15 : decode cL_freeMoneyOf 15 = .ok (.iconst 0, 1) := by decide +kernel
theorem dL_freeMoneyOf_16 : decode cL_freeMoneyOf 16 = .ok (.ireturn, 1) := by decide +kernel
theorem dL_freeDropsOf_0 : decode cL_freeDropsOf 0 = .ok (.aload_n 2, 1) := by decide +kernel
theorem dL_freeDropsOf_1 : decode cL_freeDropsOf 1 = .ok (.iconst 0, 1) := by decide +kernel
theorem dL_freeDropsOf_2 : decode cL_freeDropsOf 2 = .ok (.aload_n 0, 1) := by decide +kernel
theorem dL_freeDropsOf_3 : decode cL_freeDropsOf 3 = .ok (.iload_n 1, 1) := by decide +kernel
theorem dL_freeDropsOf_4 : decode cL_freeDropsOf 4 = .ok (.invokevirtual 66, 3) := by decide +kernel
theorem dL_freeDropsOf_7 : decode cL_freeDropsOf 7 = .ok (.i2l, 1) := by decide +kernel
theorem dL_freeDropsOf_8 : decode cL_freeDropsOf 8 = .ok (.lastore, 1) := by decide +kernel
theorem dL_freeDropsOf_9 : decode cL_freeDropsOf 9 = .ok (.goto 6, 3) := by decide +kernel
theorem dL_freeDropsOf_12 : decode cL_freeDropsOf 12 = .ok (.astore_n 3, 1) := by decide +kernel
theorem dL_freeDropsOf_13 : decode cL_freeDropsOf 13 = .ok (.iconst 1, 1) := by decide +kernel
theorem dL_freeDropsOf_14 : decode cL_freeDropsOf 14 = .ok (.ireturn, 1) := by decide +kernel
theorem dL_freeDropsOf_15 : decode cL_freeDropsOf 15 = .ok (.iconst 0, 1) := by decide +kernel
theorem dL_freeDropsOf_16 : decode cL_freeDropsOf 16 = .ok (.ireturn, 1) := by decide +kernel
theorem dL_stallByMoney_0 : decode cL_stallByMoney 0 = .ok (.aload_n 2, 1) := by decide +kernel
theorem dL_stallByMoney_1 : decode cL_stallByMoney 1 = .ok (.iconst 0, 1) := by decide +kernel
theorem dL_stallByMoney_2 : decode cL_stallByMoney 2 = .ok (.aload_n 0, 1) := by decide +kernel
theorem dL_stallByMoney_3 : decode cL_stallByMoney 3 = .ok (.iload_n 1, 1) := by decide +kernel
theorem dL_stallByMoney_4 : decode cL_stallByMoney 4 = .ok (.invokevirtual 69, 3) := by decide +kernel
theorem dL_stallByMoney_7 : decode cL_stallByMoney 7 = .ok (.i2l, 1) := by decide +kernel
theorem dL_stallByMoney_8 : decode cL_stallByMoney 8 = .ok (.lastore, 1) := by decide +kernel
theorem dL_stallByMoney_9 : decode cL_stallByMoney 9 = .ok (.goto 6, 3) := by decide +kernel
theorem dL_stallByMoney_12 : decode cL_stallByMoney 12 = .ok (.astore_n 3, 1) := by decide +kernel
theorem dL_stallByMoney_13 : decode cL_stallByMoney 13 = .ok (.iconst 1, 1) := by decide +kernel
theorem dL_stallByMoney_14 : decode cL_stallByMoney 14 = .ok (.ireturn, 1) := by decide +kernel
theorem dL_stallByMoney_15 : decode cL_stallByMoney 15 = .ok (.iconst 0, 1) := by decide +kernel
theorem dL_stallByMoney_16 : decode cL_stallByMoney 16 = .ok (.ireturn, 1) := by decide +kernel
theorem dL_orderAt_0 : decode cL_orderAt 0 = .ok (.aload_n 2, 1) := by decide +kernel
theorem dL_orderAt_1 : decode cL_orderAt 1 = .ok (.iconst 0, 1) := by decide +kernel
theorem dL_orderAt_2 : decode cL_orderAt 2 = .ok (.aload_n 0, 1) := by decide +kernel
theorem dL_orderAt_3 : decode cL_orderAt 3 = .ok (.iload_n 1, 1) := by decide +kernel
theorem dL_orderAt_4 : decode cL_orderAt 4 = .ok (.invokevirtual 72, 3) := by decide +kernel
theorem dL_orderAt_7 : decode cL_orderAt 7 = .ok (.i2l, 1) := by decide +kernel
theorem dL_orderAt_8 : decode cL_orderAt 8 = .ok (.lastore, 1) := by decide +kernel
theorem dL_orderAt_9 : decode cL_orderAt 9 = .ok (.goto 6, 3) := by decide +kernel
theorem dL_orderAt_12 : decode cL_orderAt 12 = .ok (.astore_n 3, 1) := by decide +kernel
theorem dL_orderAt_13 : decode cL_orderAt 13 = .ok (.iconst 1, 1) := by decide +kernel
theorem dL_orderAt_14 : decode cL_orderAt 14 = .ok (.ireturn, 1) := by decide +kernel
theorem dL_orderAt_15 : decode cL_orderAt 15 = .ok (.iconst 0, 1) := by decide +kernel
theorem dL_orderAt_16 : decode cL_orderAt 16 = .ok (.ireturn, 1) := by decide +kernel
theorem dL_stallOf_0 : decode cL_stallOf 0 = .ok (.aload_n 2, 1) := by decide +kernel
theorem dL_stallOf_1 : decode cL_stallOf 1 = .ok (.iconst 0, 1) := by decide +kernel
theorem dL_stallOf_2 : decode cL_stallOf 2 = .ok (.aload_n 0, 1) := by decide +kernel
theorem dL_stallOf_3 : decode cL_stallOf 3 = .ok (.iload_n 1, 1) := by decide +kernel
theorem dL_stallOf_4 : decode cL_stallOf 4 = .ok (.invokevirtual 75, 3) := by decide +kernel
theorem dL_stallOf_7 : decode cL_stallOf 7 = .ok (.i2l, 1) := by decide +kernel
theorem dL_stallOf_8 : decode cL_stallOf 8 = .ok (.lastore, 1) := by decide +kernel
theorem dL_stallOf_9 : decode cL_stallOf 9 = .ok (.goto 6, 3) := by decide +kernel
theorem dL_stallOf_12 : decode cL_stallOf 12 = .ok (.astore_n 3, 1) := by decide +kernel
theorem dL_stallOf_13 : decode cL_stallOf 13 = .ok (.iconst 1, 1) := by decide +kernel
theorem dL_stallOf_14 : decode cL_stallOf 14 = .ok (.ireturn, 1) := by decide +kernel
theorem dL_stallOf_15 : decode cL_stallOf 15 = .ok (.iconst 0, 1) := by decide +kernel
theorem dL_stallOf_16 : decode cL_stallOf 16 = .ok (.ireturn, 1) := by decide +kernel
theorem dL_isBuying_0 : decode cL_isBuying 0 = .ok (.aload_n 2, 1) := by decide +kernel
theorem dL_isBuying_1 : decode cL_isBuying 1 = .ok (.iconst 0, 1) := by decide +kernel
theorem dL_isBuying_2 : decode cL_isBuying 2 = .ok (.aload_n 0, 1) := by decide +kernel
theorem dL_isBuying_3 : decode cL_isBuying 3 = .ok (.iload_n 1, 1) := by decide +kernel
theorem dL_isBuying_4 : decode cL_isBuying 4 = .ok (.invokevirtual 78, 3) := by decide +kernel
theorem dL_isBuying_7 : decode cL_isBuying 7 = .ok (.ifCond .eq 7, 3) := by decide +kernel
theorem dL_isBuying_10 : decode cL_isBuying 10 = .ok (.lconst 1, 1) := by decide +kernel
theorem dL_isBuying_11 : decode cL_isBuying 11 = .ok (.goto 4, 3) := by decide +kernel
theorem dL_isBuying_14 : decode cL_isBuying 14 = .ok (.lconst 0, 1) := by decide +kernel
theorem dL_isBuying_15 : decode cL_isBuying 15 = .ok (.lastore, 1) := by decide +kernel
theorem dL_isBuying_16 : decode cL_isBuying 16 = .ok (.goto 6, 3) := by decide +kernel
theorem dL_isBuying_19 : decode cL_isBuying 19 = .ok (.astore_n 3, 1) := by decide +kernel
theorem dL_isBuying_20 : decode cL_isBuying 20 = .ok (.iconst 1, 1) := by decide +kernel
theorem dL_isBuying_21 : decode cL_isBuying 21 = .ok (.ireturn, 1) := by decide +kernel
theorem dL_isBuying_22 : decode cL_isBuying 22 = .ok (.iconst 0, 1) := by decide +kernel
theorem dL_isBuying_23 : decode cL_isBuying 23 = .ok (.ireturn, 1) := by decide +kernel
theorem dL_priceOf_0 : decode cL_priceOf 0 = .ok (.aload_n 2, 1) := by decide +kernel
theorem dL_priceOf_1 : decode cL_priceOf 1 = .ok (.iconst 0, 1) := by decide +kernel
theorem dL_priceOf_2 : decode cL_priceOf 2 = .ok (.aload_n 0, 1) := by decide +kernel
theorem dL_priceOf_3 : decode cL_priceOf 3 = .ok (.iload_n 1, 1) := by decide +kernel
theorem dL_priceOf_4 : decode cL_priceOf 4 = .ok (.invokevirtual 82, 3) := by decide +kernel
theorem dL_priceOf_7 : decode cL_priceOf 7 = .ok (.i2l, 1) := by decide +kernel
theorem dL_priceOf_8 : decode cL_priceOf 8 = .ok (.lastore, 1) := by decide +kernel
theorem dL_priceOf_9 : decode cL_priceOf 9 = .ok (.goto 6, 3) := by decide +kernel
theorem dL_priceOf_12 : decode cL_priceOf 12 = .ok (.astore_n 3, 1) := by decide +kernel
theorem dL_priceOf_13 : decode cL_priceOf 13 = .ok (.iconst 1, 1) := by decide +kernel
theorem dL_priceOf_14 : decode cL_priceOf 14 = .ok (.ireturn, 1) := by decide +kernel
theorem dL_priceOf_15 : decode cL_priceOf 15 = .ok (.iconst 0, 1) := by decide +kernel
theorem dL_priceOf_16 : decode cL_priceOf 16 = .ok (.ireturn, 1) := by decide +kernel
theorem dL_quantityOf_0 : decode cL_quantityOf 0 = .ok (.aload_n 2, 1) := by decide +kernel
theorem dL_quantityOf_1 : decode cL_quantityOf 1 = .ok (.iconst 0, 1) := by decide +kernel
theorem dL_quantityOf_2 : decode cL_quantityOf 2 = .ok (.aload_n 0, 1) := by decide +kernel
theorem dL_quantityOf_3 : decode cL_quantityOf 3 = .ok (.iload_n 1, 1) := by decide +kernel
theorem dL_quantityOf_4 : decode cL_quantityOf 4 = .ok (.invokevirtual 85, 3) := by decide +kernel
theorem dL_quantityOf_7 : decode cL_quantityOf 7 = .ok (.i2l, 1) := by decide +kernel
theorem dL_quantityOf_8 : decode cL_quantityOf 8 = .ok (.lastore, 1) := by decide +kernel
theorem dL_quantityOf_9 : decode cL_quantityOf 9 = .ok (.goto 6, 3) := by decide +kernel
theorem dL_quantityOf_12 : decode cL_quantityOf 12 = .ok (.astore_n 3, 1) := by decide +kernel
theorem dL_quantityOf_13 : decode cL_quantityOf 13 = .ok (.iconst 1, 1) := by decide +kernel
theorem dL_quantityOf_14 : decode cL_quantityOf 14 = .ok (.ireturn, 1) := by decide +kernel
theorem dL_quantityOf_15 : decode cL_quantityOf 15 = .ok (.iconst 0, 1) := by decide +kernel
theorem dL_quantityOf_16 : decode cL_quantityOf 16 = .ok (.ireturn, 1) := by decide +kernel
theorem dL_minutesLeft_0 : decode cL_minutesLeft 0 = .ok (.aload_n 2, 1) := by decide +kernel
theorem dL_minutesLeft_1 : decode cL_minutesLeft 1 = .ok (.iconst 0, 1) := by decide +kernel
theorem dL_minutesLeft_2 : decode cL_minutesLeft 2 = .ok (.aload_n 0, 1) := by decide +kernel
theorem dL_minutesLeft_3 : decode cL_minutesLeft 3 = .ok (.iload_n 1, 1) := by decide +kernel
theorem dL_minutesLeft_4 : decode cL_minutesLeft 4 = .ok (.invokevirtual 88, 3) := by decide +kernel
theorem dL_minutesLeft_7 : decode cL_minutesLeft 7 = .ok (.i2l, 1) := by decide +kernel
theorem dL_minutesLeft_8 : decode cL_minutesLeft 8 = .ok (.lastore, 1) := by decide +kernel
theorem dL_minutesLeft_9 : decode cL_minutesLeft 9 = .ok (.goto 9, 3) := by decide +kernel
theorem dL_minutesLeft_12 : decode cL_minutesLeft 12 = .ok (.astore_n 3, 1) := by decide +kernel
theorem dL_minutesLeft_13 : decode cL_minutesLeft 13 = .ok (.iconst 1, 1) := by decide +kernel
theorem dL_minutesLeft_14 : decode cL_minutesLeft 14 = .ok (.ireturn, 1) := by decide +kernel
theorem dL_minutesLeft_15 : decode cL_minutesLeft 15 = .ok (.astore_n 3, 1) := by decide +kernel
theorem dL_minutesLeft_16 : decode cL_minutesLeft 16 = .ok (.iconst 2, 1) := by decide +kernel
theorem dL_minutesLeft_17 : decode cL_minutesLeft 17 = .ok (.ireturn, 1) := by decide +kernel
theorem dL_minutesLeft_18 : decode cL_minutesLeft 18 = .ok (.iconst 0, 1) := by decide +kernel
theorem dL_minutesLeft_19 : decode cL_minutesLeft 19 = .ok (.ireturn, 1) := by decide +kernel
theorem dL_bestBuy_0 : decode cL_bestBuy 0 = .ok (.aload_n 1, 1) := by decide +kernel
theorem dL_bestBuy_1 : decode cL_bestBuy 1 = .ok (.iconst 0, 1) := by decide +kernel
theorem dL_bestBuy_2 : decode cL_bestBuy 2 = .ok (.aload_n 0, 1) := by decide +kernel
theorem dL_bestBuy_3 : decode cL_bestBuy 3 = .ok (.invokevirtual 91, 3) := by decide +kernel
theorem dL_bestBuy_6 : decode cL_bestBuy 6 = .ok (.i2l, 1) := by decide +kernel
theorem dL_bestBuy_7 : decode cL_bestBuy 7 = .ok (.lastore, 1) := by decide +kernel
theorem dL_bestBuy_8 : decode cL_bestBuy 8 = .ok (.goto 6, 3) := by decide +kernel
theorem dL_bestBuy_11 : decode cL_bestBuy 11 = .ok (.astore_n 2, 1) := by decide +kernel
theorem dL_bestBuy_12 : decode cL_bestBuy 12 = .ok (.iconst 1, 1) := by decide +kernel
theorem dL_bestBuy_13 : decode cL_bestBuy 13 = .ok (.ireturn, 1) := by decide +kernel
theorem dL_bestBuy_14 : decode cL_bestBuy 14 = .ok (.iconst 0, 1) := by decide +kernel
theorem dL_bestBuy_15 : decode cL_bestBuy 15 = .ok (.ireturn, 1) := by decide +kernel
theorem dL_bestSell_0 : decode cL_bestSell 0 = .ok (.aload_n 1, 1) := by decide +kernel
theorem dL_bestSell_1 : decode cL_bestSell 1 = .ok (.iconst 0, 1) := by decide +kernel
theorem dL_bestSell_2 : decode cL_bestSell 2 = .ok (.aload_n 0, 1) := by decide +kernel
theorem dL_bestSell_3 : decode cL_bestSell 3 = .ok (.invokevirtual 94, 3) := by decide +kernel
theorem dL_bestSell_6 : decode cL_bestSell 6 = .ok (.i2l, 1) := by decide +kernel
theorem dL_bestSell_7 : decode cL_bestSell 7 = .ok (.lastore, 1) := by decide +kernel
theorem dL_bestSell_8 : decode cL_bestSell 8 = .ok (.goto 6, 3) := by decide +kernel
theorem dL_bestSell_11 : decode cL_bestSell 11 = .ok (.astore_n 2, 1) := by decide +kernel
theorem dL_bestSell_12 : decode cL_bestSell 12 = .ok (.iconst 1, 1) := by decide +kernel
theorem dL_bestSell_13 : decode cL_bestSell 13 = .ok (.ireturn, 1) := by decide +kernel
theorem dL_bestSell_14 : decode cL_bestSell 14 = .ok (.iconst 0, 1) := by decide +kernel
theorem dL_bestSell_15 : decode cL_bestSell 15 = .ok (.ireturn, 1) := by decide +kernel
theorem dL_spread_0 : decode cL_spread 0 = .ok (.aload_n 1, 1) := by decide +kernel
theorem dL_spread_1 : decode cL_spread 1 = .ok (.iconst 0, 1) := by decide +kernel
theorem dL_spread_2 : decode cL_spread 2 = .ok (.aload_n 0, 1) := by decide +kernel
theorem dL_spread_3 : decode cL_spread 3 = .ok (.invokevirtual 97, 3) := by decide +kernel
theorem dL_spread_6 : decode cL_spread 6 = .ok (.i2l, 1) := by decide +kernel
theorem dL_spread_7 : decode cL_spread 7 = .ok (.lastore, 1) := by decide +kernel
theorem dL_spread_8 : decode cL_spread 8 = .ok (.goto 6, 3) := by decide +kernel
theorem dL_spread_11 : decode cL_spread 11 = .ok (.astore_n 2, 1) := by decide +kernel
theorem dL_spread_12 : decode cL_spread 12 = .ok (.iconst 1, 1) := by decide +kernel
theorem dL_spread_13 : decode cL_spread 13 = .ok (.ireturn, 1) := by decide +kernel
theorem dL_spread_14 : decode cL_spread 14 = .ok (.iconst 0, 1) := by decide +kernel
theorem dL_spread_15 : decode cL_spread 15 = .ok (.ireturn, 1) := by decide +kernel
theorem dL_spreadBySums_0 : decode cL_spreadBySums 0 = .ok (.aload_n 1, 1) := by decide +kernel
theorem dL_spreadBySums_1 : decode cL_spreadBySums 1 = .ok (.iconst 0, 1) := by decide +kernel
theorem dL_spreadBySums_2 : decode cL_spreadBySums 2 = .ok (.aload_n 0, 1) := by decide +kernel
theorem dL_spreadBySums_3 : decode cL_spreadBySums 3 = .ok (.invokevirtual 100, 3) := by decide +kernel
theorem dL_spreadBySums_6 : decode cL_spreadBySums 6 = .ok (.i2l, 1) := by decide +kernel
theorem dL_spreadBySums_7 : decode cL_spreadBySums 7 = .ok (.lastore, 1) := by decide +kernel
theorem dL_spreadBySums_8 : decode cL_spreadBySums 8 = .ok (.goto 6, 3) := by decide +kernel
theorem dL_spreadBySums_11 : decode cL_spreadBySums 11 = .ok (.astore_n 2, 1) := by decide +kernel
theorem dL_spreadBySums_12 : decode cL_spreadBySums 12 = .ok (.iconst 1, 1) := by decide +kernel
theorem dL_spreadBySums_13 : decode cL_spreadBySums 13 = .ok (.ireturn, 1) := by decide +kernel
theorem dL_spreadBySums_14 : decode cL_spreadBySums 14 = .ok (.iconst 0, 1) := by decide +kernel
theorem dL_spreadBySums_15 : decode cL_spreadBySums 15 = .ok (.ireturn, 1) := by decide +kernel
theorem dL_buyingAt_0 : decode cL_buyingAt 0 = .ok (.aload_n 2, 1) := by decide +kernel
theorem dL_buyingAt_1 : decode cL_buyingAt 1 = .ok (.iconst 0, 1) := by decide +kernel
theorem dL_buyingAt_2 : decode cL_buyingAt 2 = .ok (.aload_n 0, 1) := by decide +kernel
theorem dL_buyingAt_3 : decode cL_buyingAt 3 = .ok (.iload_n 1, 1) := by decide +kernel
theorem dL_buyingAt_4 : decode cL_buyingAt 4 = .ok (.invokevirtual 103, 3) := by decide +kernel
theorem dL_buyingAt_7 : decode cL_buyingAt 7 = .ok (.i2l, 1) := by decide +kernel
theorem dL_buyingAt_8 : decode cL_buyingAt 8 = .ok (.lastore, 1) := by decide +kernel
theorem dL_buyingAt_9 : decode cL_buyingAt 9 = .ok (.goto 6, 3) := by decide +kernel
theorem dL_buyingAt_12 : decode cL_buyingAt 12 = .ok (.astore_n 3, 1) := by decide +kernel
theorem dL_buyingAt_13 : decode cL_buyingAt 13 = .ok (.iconst 1, 1) := by decide +kernel
theorem dL_buyingAt_14 : decode cL_buyingAt 14 = .ok (.ireturn, 1) := by decide +kernel
theorem dL_buyingAt_15 : decode cL_buyingAt 15 = .ok (.iconst 0, 1) := by decide +kernel
theorem dL_buyingAt_16 : decode cL_buyingAt 16 = .ok (.ireturn, 1) := by decide +kernel
theorem dL_sellingAt_0 : decode cL_sellingAt 0 = .ok (.aload_n 2, 1) := by decide +kernel
theorem dL_sellingAt_1 : decode cL_sellingAt 1 = .ok (.iconst 0, 1) := by decide +kernel
theorem dL_sellingAt_2 : decode cL_sellingAt 2 = .ok (.aload_n 0, 1) := by decide +kernel
theorem dL_sellingAt_3 : decode cL_sellingAt 3 = .ok (.iload_n 1, 1) := by decide +kernel
theorem dL_sellingAt_4 : decode cL_sellingAt 4 = .ok (.invokevirtual 106, 3) := by decide +kernel
theorem dL_sellingAt_7 : decode cL_sellingAt 7 = .ok (.i2l, 1) := by decide +kernel
theorem dL_sellingAt_8 : decode cL_sellingAt 8 = .ok (.lastore, 1) := by decide +kernel
theorem dL_sellingAt_9 : decode cL_sellingAt 9 = .ok (.goto 6, 3) := by decide +kernel
theorem dL_sellingAt_12 : decode cL_sellingAt 12 = .ok (.astore_n 3, 1) := by decide +kernel
theorem dL_sellingAt_13 : decode cL_sellingAt 13 = .ok (.iconst 1, 1) := by decide +kernel
theorem dL_sellingAt_14 : decode cL_sellingAt 14 = .ok (.ireturn, 1) := by decide +kernel
theorem dL_sellingAt_15 : decode cL_sellingAt 15 = .ok (.iconst 0, 1) := by decide +kernel
theorem dL_sellingAt_16 : decode cL_sellingAt 16 = .ok (.ireturn, 1) := by decide +kernel
theorem dL_lastPrice_0 : decode cL_lastPrice 0 = .ok (.aload_n 1, 1) := by decide +kernel
theorem dL_lastPrice_1 : decode cL_lastPrice 1 = .ok (.iconst 0, 1) := by decide +kernel
theorem dL_lastPrice_2 : decode cL_lastPrice 2 = .ok (.aload_n 0, 1) := by decide +kernel
theorem dL_lastPrice_3 : decode cL_lastPrice 3 = .ok (.invokevirtual 109, 3) := by decide +kernel
theorem dL_lastPrice_6 : decode cL_lastPrice 6 = .ok (.i2l, 1) := by decide +kernel
theorem dL_lastPrice_7 : decode cL_lastPrice 7 = .ok (.lastore, 1) := by decide +kernel
theorem dL_lastPrice_8 : decode cL_lastPrice 8 = .ok (.goto 6, 3) := by decide +kernel
theorem dL_lastPrice_11 : decode cL_lastPrice 11 = .ok (.astore_n 2, 1) := by decide +kernel
theorem dL_lastPrice_12 : decode cL_lastPrice 12 = .ok (.iconst 1, 1) := by decide +kernel
theorem dL_lastPrice_13 : decode cL_lastPrice 13 = .ok (.ireturn, 1) := by decide +kernel
theorem dL_lastPrice_14 : decode cL_lastPrice 14 = .ok (.iconst 0, 1) := by decide +kernel
theorem dL_lastPrice_15 : decode cL_lastPrice 15 = .ok (.ireturn, 1) := by decide +kernel
theorem dL_meanPrice_0 : decode cL_meanPrice 0 = .ok (.aload_n 1, 1) := by decide +kernel
theorem dL_meanPrice_1 : decode cL_meanPrice 1 = .ok (.iconst 0, 1) := by decide +kernel
theorem dL_meanPrice_2 : decode cL_meanPrice 2 = .ok (.aload_n 0, 1) := by decide +kernel
theorem dL_meanPrice_3 : decode cL_meanPrice 3 = .ok (.invokevirtual 112, 3) := by decide +kernel
theorem dL_meanPrice_6 : decode cL_meanPrice 6 = .ok (.dastore, 1) := by decide +kernel
theorem dL_meanPrice_7 : decode cL_meanPrice 7 = .ok (.goto 6, 3) := by decide +kernel
theorem dL_meanPrice_10 : decode cL_meanPrice 10 = .ok (.astore_n 2, 1) := by decide +kernel
theorem dL_meanPrice_11 : decode cL_meanPrice 11 = .ok (.iconst 1, 1) := by decide +kernel
theorem dL_meanPrice_12 : decode cL_meanPrice 12 = .ok (.ireturn, 1) := by decide +kernel
theorem dL_meanPrice_13 : decode cL_meanPrice 13 = .ok (.iconst 0, 1) := by decide +kernel
theorem dL_meanPrice_14 : decode cL_meanPrice 14 = .ok (.ireturn, 1) := by decide +kernel
theorem dL_buyingShare_0 : decode cL_buyingShare 0 = .ok (.aload_n 1, 1) := by decide +kernel
theorem dL_buyingShare_1 : decode cL_buyingShare 1 = .ok (.iconst 0, 1) := by decide +kernel
theorem dL_buyingShare_2 : decode cL_buyingShare 2 = .ok (.aload_n 0, 1) := by decide +kernel
theorem dL_buyingShare_3 : decode cL_buyingShare 3 = .ok (.invokevirtual 118, 3) := by decide +kernel
theorem dL_buyingShare_6 : decode cL_buyingShare 6 = .ok (.f2d, 1) := by decide +kernel
theorem dL_buyingShare_7 : decode cL_buyingShare 7 = .ok (.dastore, 1) := by decide +kernel
theorem dL_buyingShare_8 : decode cL_buyingShare 8 = .ok (.goto 6, 3) := by decide +kernel
theorem dL_buyingShare_11 : decode cL_buyingShare 11 = .ok (.astore_n 2, 1) := by decide +kernel
theorem dL_buyingShare_12 : decode cL_buyingShare 12 = .ok (.iconst 1, 1) := by decide +kernel
theorem dL_buyingShare_13 : decode cL_buyingShare 13 = .ok (.ireturn, 1) := by decide +kernel
theorem dL_buyingShare_14 : decode cL_buyingShare 14 = .ok (.iconst 0, 1) := by decide +kernel
theorem dL_buyingShare_15 : decode cL_buyingShare 15 = .ok (.ireturn, 1) := by decide +kernel
theorem dL_poolPrice_0 : decode cL_poolPrice 0 = .ok (.aload_n 1, 1) := by decide +kernel
theorem dL_poolPrice_1 : decode cL_poolPrice 1 = .ok (.iconst 0, 1) := by decide +kernel
theorem dL_poolPrice_2 : decode cL_poolPrice 2 = .ok (.aload_n 0, 1) := by decide +kernel
theorem dL_poolPrice_3 : decode cL_poolPrice 3 = .ok (.invokevirtual 122, 3) := by decide +kernel
theorem dL_poolPrice_6 : decode cL_poolPrice 6 = .ok (.i2l, 1) := by decide +kernel
theorem dL_poolPrice_7 : decode cL_poolPrice 7 = .ok (.lastore, 1) := by decide +kernel
theorem dL_poolPrice_8 : decode cL_poolPrice 8 = .ok (.goto 6, 3) := by decide +kernel
theorem dL_poolPrice_11 : decode cL_poolPrice 11 = .ok (.astore_n 2, 1) := by decide +kernel
theorem dL_poolPrice_12 : decode cL_poolPrice 12 = .ok (.iconst 1, 1) := by decide +kernel
theorem dL_poolPrice_13 : decode cL_poolPrice 13 = .ok (.ireturn, 1) := by decide +kernel
theorem dL_poolPrice_14 : decode cL_poolPrice 14 = .ok (.iconst 0, 1) := by decide +kernel
theorem dL_poolPrice_15 : decode cL_poolPrice 15 = .ok (.ireturn, 1) := by decide +kernel
theorem dL_poolPriceBySums_0 : decode cL_poolPriceBySums 0 = .ok (.aload_n 1, 1) := by decide +kernel
theorem dL_poolPriceBySums_1 : decode cL_poolPriceBySums 1 = .ok (.iconst 0, 1) := by decide +kernel
theorem dL_poolPriceBySums_2 : decode cL_poolPriceBySums 2 = .ok (.aload_n 0, 1) := by decide +kernel
theorem dL_poolPriceBySums_3 : decode cL_poolPriceBySums 3 = .ok (.invokevirtual 125, 3) := by decide +kernel
theorem dL_poolPriceBySums_6 : decode cL_poolPriceBySums 6 = .ok (.i2l, 1) := by decide +kernel
theorem dL_poolPriceBySums_7 : decode cL_poolPriceBySums 7 = .ok (.lastore, 1) := by decide +kernel
theorem dL_poolPriceBySums_8 : decode cL_poolPriceBySums 8 = .ok (.goto 6, 3) := by decide +kernel
theorem dL_poolPriceBySums_11 : decode cL_poolPriceBySums 11 = .ok (.astore_n 2, 1) := by decide +kernel
theorem dL_poolPriceBySums_12 : decode cL_poolPriceBySums 12 = .ok (.iconst 1, 1) := by decide +kernel
theorem dL_poolPriceBySums_13 : decode cL_poolPriceBySums 13 = .ok (.ireturn, 1) := by decide +kernel
theorem dL_poolPriceBySums_14 : decode cL_poolPriceBySums 14 = .ok (.iconst 0, 1) := by decide +kernel
theorem dL_poolPriceBySums_15 : decode cL_poolPriceBySums 15 = .ok (.ireturn, 1) := by decide +kernel
theorem dL_volumeAt_0 : decode cL_volumeAt 0 = .ok (.aload_n 2, 1) := by decide +kernel
theorem dL_volumeAt_1 : decode cL_volumeAt 1 = .ok (.iconst 0, 1) := by decide +kernel
theorem dL_volumeAt_2 : decode cL_volumeAt 2 = .ok (.aload_n 0, 1) := by decide +kernel
theorem dL_volumeAt_3 : decode cL_volumeAt 3 = .ok (.iload_n 1, 1) := by decide +kernel
theorem dL_volumeAt_4 : decode cL_volumeAt 4 = .ok (.invokevirtual 128, 3) := by decide +kernel
theorem dL_volumeAt_7 : decode cL_volumeAt 7 = .ok (.i2l, 1) := by decide +kernel
theorem dL_volumeAt_8 : decode cL_volumeAt 8 = .ok (.lastore, 1) := by decide +kernel
theorem dL_volumeAt_9 : decode cL_volumeAt 9 = .ok (.goto 6, 3) := by decide +kernel
theorem dL_volumeAt_12 : decode cL_volumeAt 12 = .ok (.astore_n 3, 1) := by decide +kernel
theorem dL_volumeAt_13 : decode cL_volumeAt 13 = .ok (.iconst 1, 1) := by decide +kernel
theorem dL_volumeAt_14 : decode cL_volumeAt 14 = .ok (.ireturn, 1) := by decide +kernel
theorem dL_volumeAt_15 : decode cL_volumeAt 15 = .ok (.iconst 0, 1) := by decide +kernel
theorem dL_volumeAt_16 : decode cL_volumeAt 16 = .ok (.ireturn, 1) := by decide +kernel
theorem dL_writeOrder_0 : decode cL_writeOrder 0 = .ok (.aload_n 2, 1) := by decide +kernel
theorem dL_writeOrder_1 : decode cL_writeOrder 1 = .ok (.iconst 0, 1) := by decide +kernel
theorem dL_writeOrder_2 : decode cL_writeOrder 2 = .ok (.aload_n 0, 1) := by decide +kernel
theorem dL_writeOrder_3 : decode cL_writeOrder 3 = .ok (.iload_n 1, 1) := by decide +kernel
theorem dL_writeOrder_4 : decode cL_writeOrder 4 = .ok (.invokevirtual 131, 3) := by decide +kernel
theorem dL_writeOrder_7 : decode cL_writeOrder 7 = .ok (.i2l, 1) := by decide +kernel
theorem dL_writeOrder_8 : decode cL_writeOrder 8 = .ok (.lastore, 1) := by decide +kernel
theorem dL_writeOrder_9 : decode cL_writeOrder 9 = .ok (.goto 6, 3) := by decide +kernel
theorem dL_writeOrder_12 : decode cL_writeOrder 12 = .ok (.astore_n 3, 1) := by decide +kernel
theorem dL_writeOrder_13 : decode cL_writeOrder 13 = .ok (.iconst 1, 1) := by decide +kernel
theorem dL_writeOrder_14 : decode cL_writeOrder 14 = .ok (.ireturn, 1) := by decide +kernel
theorem dL_writeOrder_15 : decode cL_writeOrder 15 = .ok (.iconst 0, 1) := by decide +kernel
theorem dL_writeOrder_16 : decode cL_writeOrder 16 = .ok (.ireturn, 1) := by decide +kernel
theorem dL_lineAt_0 : decode cL_lineAt 0 = .ok (.aload_n 2, 1) := by decide +kernel
theorem dL_lineAt_1 : decode cL_lineAt 1 = .ok (.iconst 0, 1) := by decide +kernel
theorem dL_lineAt_2 : decode cL_lineAt 2 = .ok (.aload_n 0, 1) := by decide +kernel
theorem dL_lineAt_3 : decode cL_lineAt 3 = .ok (.iload_n 1, 1) := by decide +kernel
theorem dL_lineAt_4 : decode cL_lineAt 4 = .ok (.invokevirtual 134, 3) := by decide +kernel
theorem dL_lineAt_7 : decode cL_lineAt 7 = .ok (.i2l, 1) := by decide +kernel
theorem dL_lineAt_8 : decode cL_lineAt 8 = .ok (.lastore, 1) := by decide +kernel
theorem dL_lineAt_9 : decode cL_lineAt 9 = .ok (.goto 6, 3) := by decide +kernel
theorem dL_lineAt_12 : decode cL_lineAt 12 = .ok (.astore_n 3, 1) := by decide +kernel
theorem dL_lineAt_13 : decode cL_lineAt 13 = .ok (.iconst 1, 1) := by decide +kernel
theorem dL_lineAt_14 : decode cL_lineAt 14 = .ok (.ireturn, 1) := by decide +kernel
theorem dL_lineAt_15 : decode cL_lineAt 15 = .ok (.iconst 0, 1) := by decide +kernel
theorem dL_lineAt_16 : decode cL_lineAt 16 = .ok (.ireturn, 1) := by decide +kernel
theorem dL_type_0 : decode cL_type 0 = .ok (.aload_n 2, 1) := by decide +kernel
theorem dL_type_1 : decode cL_type 1 = .ok (.iconst 0, 1) := by decide +kernel
theorem dL_type_2 : decode cL_type 2 = .ok (.aload_n 0, 1) := by decide +kernel
theorem dL_type_3 : decode cL_type 3 = .ok (.iload_n 1, 1) := by decide +kernel
theorem dL_type_4 : decode cL_type 4 = .ok (.invokevirtual 138, 3) := by decide +kernel
theorem dL_type_7 : decode cL_type 7 = .ok (.i2l, 1) := by decide +kernel
theorem dL_type_8 : decode cL_type 8 = .ok (.lastore, 1) := by decide +kernel
theorem dL_type_9 : decode cL_type 9 = .ok (.goto 9, 3) := by decide +kernel
theorem dL_type_12 : decode cL_type 12 = .ok (.astore_n 3, 1) := by decide +kernel
theorem dL_type_13 : decode cL_type 13 = .ok (.iconst 1, 1) := by decide +kernel
theorem dL_type_14 : decode cL_type 14 = .ok (.ireturn, 1) := by decide +kernel
theorem dL_type_15 : decode cL_type 15 = .ok (.astore_n 3, 1) := by decide +kernel
theorem dL_type_16 : decode cL_type 16 = .ok (.iconst 2, 1) := by decide +kernel
theorem dL_type_17 : decode cL_type 17 = .ok (.ireturn, 1) := by decide +kernel
theorem dL_type_18 : decode cL_type 18 = .ok (.iconst 0, 1) := by decide +kernel
theorem dL_type_19 : decode cL_type 19 = .ok (.ireturn, 1) := by decide +kernel
theorem dL_execute_0 : decode cL_execute 0 = .ok (.aload_n 1, 1) := by decide +kernel
theorem dL_execute_1 : decode cL_execute 1 = .ok (.iconst 0, 1) := by decide +kernel
theorem dL_execute_2 : decode cL_execute 2 = .ok (.aload_n 0, 1) := by decide +kernel
theorem dL_execute_3 : decode cL_execute 3 = .ok (.invokevirtual 142, 3) := by decide +kernel
theorem dL_execute_6 : decode cL_execute 6 = .ok (.i2l, 1) := by decide +kernel
theorem dL_execute_7 : decode cL_execute 7 = .ok (.lastore, 1) := by decide +kernel
theorem dL_execute_8 : decode cL_execute 8 = .ok (.goto 9, 3) := by decide +kernel
theorem dL_execute_11 : decode cL_execute 11 = .ok (.astore_n 2, 1) := by decide +kernel
theorem dL_execute_12 : decode cL_execute 12 = .ok (.iconst 1, 1) := by decide +kernel
theorem dL_execute_13 : decode cL_execute 13 = .ok (.ireturn, 1) := by decide +kernel
theorem dL_execute_14 : decode cL_execute 14 = .ok (.astore_n 2, 1) := by decide +kernel
theorem dL_execute_15 : decode cL_execute 15 = .ok (.iconst 2, 1) := by decide +kernel
theorem dL_execute_16 : decode cL_execute 16 = .ok (.ireturn, 1) := by decide +kernel
theorem dL_execute_17 : decode cL_execute 17 = .ok (.iconst 0, 1) := by decide +kernel
theorem dL_execute_18 : decode cL_execute 18 = .ok (.ireturn, 1) := by decide +kernel
theorem dL_errorPosition_0 : decode cL_errorPosition 0 = .ok (.aload_n 1, 1) := by decide +kernel
theorem dL_errorPosition_1 : decode cL_errorPosition 1 = .ok (.iconst 0, 1) := by decide +kernel
theorem dL_errorPosition_2 : decode cL_errorPosition 2 = .ok (.aload_n 0, 1) := by decide +kernel
theorem dL_errorPosition_3 : decode cL_errorPosition 3 = .ok (.invokevirtual 145, 3) := by decide +kernel
theorem dL_errorPosition_6 : decode cL_errorPosition 6 = .ok (.i2l, 1) := by decide +kernel
theorem dL_errorPosition_7 : decode cL_errorPosition 7 = .ok (.lastore, 1) := by decide +kernel
theorem dL_errorPosition_8 : decode cL_errorPosition 8 = .ok (.goto 6, 3) := by decide +kernel
theorem dL_errorPosition_11 : decode cL_errorPosition 11 = .ok (.astore_n 2, 1) := by decide +kernel
theorem dL_errorPosition_12 : decode cL_errorPosition 12 = .ok (.iconst 1, 1) := by decide +kernel
theorem dL_errorPosition_13 : decode cL_errorPosition 13 = .ok (.ireturn, 1) := by decide +kernel
theorem dL_errorPosition_14 : decode cL_errorPosition 14 = .ok (.iconst 0, 1) := by decide +kernel
theorem dL_errorPosition_15 : decode cL_errorPosition 15 = .ok (.ireturn, 1) := by decide +kernel
theorem dL_failedCommand_0 : decode cL_failedCommand 0 = .ok (.aload_n 1, 1) := by decide +kernel
theorem dL_failedCommand_1 : decode cL_failedCommand 1 = .ok (.iconst 0, 1) := by decide +kernel
theorem dL_failedCommand_2 : decode cL_failedCommand 2 = .ok (.aload_n 0, 1) := by decide +kernel
theorem dL_failedCommand_3 : decode cL_failedCommand 3 = .ok (.invokevirtual 148, 3) := by decide +kernel
theorem dL_failedCommand_6 : decode cL_failedCommand 6 = .ok (.i2l, 1) := by decide +kernel
theorem dL_failedCommand_7 : decode cL_failedCommand 7 = .ok (.lastore, 1) := by decide +kernel
theorem dL_failedCommand_8 : decode cL_failedCommand 8 = .ok (.goto 6, 3) := by decide +kernel
theorem dL_failedCommand_11 : decode cL_failedCommand 11 = .ok (.astore_n 2, 1) := by decide +kernel
theorem dL_failedCommand_12 : decode cL_failedCommand 12 = .ok (.iconst 1, 1) := by decide +kernel
theorem dL_failedCommand_13 : decode cL_failedCommand 13 = .ok (.ireturn, 1) := by decide +kernel
theorem dL_failedCommand_14 : decode cL_failedCommand 14 = .ok (.iconst 0, 1) := by decide +kernel
theorem dL_failedCommand_15 : decode cL_failedCommand 15 = .ok (.ireturn, 1) := by decide +kernel
theorem dL_undo_0 : decode cL_undo 0 = .ok (.aload_n 1, 1) := by decide +kernel
theorem dL_undo_1 : decode cL_undo 1 = .ok (.iconst 0, 1) := by decide +kernel
theorem dL_undo_2 : decode cL_undo 2 = .ok (.aload_n 0, 1) := by decide +kernel
theorem dL_undo_3 : decode cL_undo 3 = .ok (.invokevirtual 151, 3) := by decide +kernel
theorem dL_undo_6 : decode cL_undo 6 = .ok (.i2l, 1) := by decide +kernel
theorem dL_undo_7 : decode cL_undo 7 = .ok (.lastore, 1) := by decide +kernel
theorem dL_undo_8 : decode cL_undo 8 = .ok (.goto 6, 3) := by decide +kernel
theorem dL_undo_11 : decode cL_undo 11 = .ok (.astore_n 2, 1) := by decide +kernel
theorem dL_undo_12 : decode cL_undo 12 = .ok (.iconst 1, 1) := by decide +kernel
theorem dL_undo_13 : decode cL_undo 13 = .ok (.ireturn, 1) := by decide +kernel
theorem dL_undo_14 : decode cL_undo 14 = .ok (.iconst 0, 1) := by decide +kernel
theorem dL_undo_15 : decode cL_undo 15 = .ok (.ireturn, 1) := by decide +kernel
theorem dL_restore_0 : decode cL_restore 0 = .ok (.aload_n 1, 1) := by decide +kernel
theorem dL_restore_1 : decode cL_restore 1 = .ok (.iconst 0, 1) := by decide +kernel
theorem dL_restore_2 : decode cL_restore 2 = .ok (.aload_n 0, 1) := by decide +kernel
theorem dL_restore_3 : decode cL_restore 3 = .ok (.invokevirtual 154, 3) := by decide +kernel
theorem dL_restore_6 : decode cL_restore 6 = .ok (.i2l, 1) := by decide +kernel
theorem dL_restore_7 : decode cL_restore 7 = .ok (.lastore, 1) := by decide +kernel
theorem dL_restore_8 : decode cL_restore 8 = .ok (.goto 6, 3) := by decide +kernel
theorem dL_restore_11 : decode cL_restore 11 = .ok (.astore_n 2, 1) := by decide +kernel
theorem dL_restore_12 : decode cL_restore 12 = .ok (.iconst 1, 1) := by decide +kernel
theorem dL_restore_13 : decode cL_restore 13 = .ok (.ireturn, 1) := by decide +kernel
theorem dL_restore_14 : decode cL_restore 14 = .ok (.iconst 0, 1) := by decide +kernel
theorem dL_restore_15 : decode cL_restore 15 = .ok (.ireturn, 1) := by decide +kernel
set_option maxHeartbeats 4000000 in
set_option maxRecDepth 100000 in
theorem SF.nc_1_2 {l : Launch} {G : Gx} (hF : SF l G) : va_Nc (exN 1) (exN 2) G.2.1 := by
  obtain ⟨b, -, hn⟩ := hF.2.2.2.2
  exact va_Nc.of (flat_of_before _ hn _ (List.mem_of_getElem? (i := 376) rfl))
set_option maxHeartbeats 4000000 in
set_option maxRecDepth 100000 in
theorem SF.nc_1_3 {l : Launch} {G : Gx} (hF : SF l G) : va_Nc (exN 1) (exN 3) G.2.1 := by
  obtain ⟨b, -, hn⟩ := hF.2.2.2.2
  exact va_Nc.of (flat_of_before _ hn _ (List.mem_of_getElem? (i := 397) rfl))
set_option maxHeartbeats 4000000 in
set_option maxRecDepth 100000 in
theorem SF.nc_1_4 {l : Launch} {G : Gx} (hF : SF l G) : va_Nc (exN 1) (exN 4) G.2.1 := by
  obtain ⟨b, -, hn⟩ := hF.2.2.2.2
  exact va_Nc.of (flat_of_before _ hn _ (List.mem_of_getElem? (i := 437) rfl))
set_option maxHeartbeats 4000000 in
set_option maxRecDepth 100000 in
theorem SF.nc_1_5 {l : Launch} {G : Gx} (hF : SF l G) : va_Nc (exN 1) (exN 5) G.2.1 := by
  obtain ⟨b, -, hn⟩ := hF.2.2.2.2
  exact va_Nc.of (flat_of_before _ hn _ (List.mem_of_getElem? (i := 458) rfl))
set_option maxHeartbeats 4000000 in
set_option maxRecDepth 100000 in
theorem SF.nc_1_6 {l : Launch} {G : Gx} (hF : SF l G) : va_Nc (exN 1) (exN 6) G.2.1 := by
  obtain ⟨b, -, hn⟩ := hF.2.2.2.2
  exact va_Nc.of (flat_of_before _ hn _ (List.mem_of_getElem? (i := 479) rfl))
set_option maxHeartbeats 4000000 in
set_option maxRecDepth 100000 in
theorem SF.nc_2_1 {l : Launch} {G : Gx} (hF : SF l G) : va_Nc (exN 2) (exN 1) G.2.1 := by
  obtain ⟨b, -, hn⟩ := hF.2.2.2.2
  exact va_Nc.of (flat_of_before _ hn _ (List.mem_of_getElem? (i := 418) rfl))
set_option maxHeartbeats 4000000 in
set_option maxRecDepth 100000 in
theorem SF.nc_2_3 {l : Launch} {G : Gx} (hF : SF l G) : va_Nc (exN 2) (exN 3) G.2.1 := by
  obtain ⟨b, -, hn⟩ := hF.2.2.2.2
  exact va_Nc.of (flat_of_before _ hn _ (List.mem_of_getElem? (i := 398) rfl))
set_option maxHeartbeats 4000000 in
set_option maxRecDepth 100000 in
theorem SF.nc_2_4 {l : Launch} {G : Gx} (hF : SF l G) : va_Nc (exN 2) (exN 4) G.2.1 := by
  obtain ⟨b, -, hn⟩ := hF.2.2.2.2
  exact va_Nc.of (flat_of_before _ hn _ (List.mem_of_getElem? (i := 438) rfl))
set_option maxHeartbeats 4000000 in
set_option maxRecDepth 100000 in
theorem SF.nc_2_5 {l : Launch} {G : Gx} (hF : SF l G) : va_Nc (exN 2) (exN 5) G.2.1 := by
  obtain ⟨b, -, hn⟩ := hF.2.2.2.2
  exact va_Nc.of (flat_of_before _ hn _ (List.mem_of_getElem? (i := 459) rfl))
set_option maxHeartbeats 4000000 in
set_option maxRecDepth 100000 in
theorem SF.nc_2_6 {l : Launch} {G : Gx} (hF : SF l G) : va_Nc (exN 2) (exN 6) G.2.1 := by
  obtain ⟨b, -, hn⟩ := hF.2.2.2.2
  exact va_Nc.of (flat_of_before _ hn _ (List.mem_of_getElem? (i := 480) rfl))
set_option maxHeartbeats 4000000 in
set_option maxRecDepth 100000 in
theorem SF.nc_3_1 {l : Launch} {G : Gx} (hF : SF l G) : va_Nc (exN 3) (exN 1) G.2.1 := by
  obtain ⟨b, -, hn⟩ := hF.2.2.2.2
  exact va_Nc.of (flat_of_before _ hn _ (List.mem_of_getElem? (i := 419) rfl))
set_option maxHeartbeats 4000000 in
set_option maxRecDepth 100000 in
theorem SF.nc_3_2 {l : Launch} {G : Gx} (hF : SF l G) : va_Nc (exN 3) (exN 2) G.2.1 := by
  obtain ⟨b, -, hn⟩ := hF.2.2.2.2
  exact va_Nc.of (flat_of_before _ hn _ (List.mem_of_getElem? (i := 377) rfl))
set_option maxHeartbeats 4000000 in
set_option maxRecDepth 100000 in
theorem SF.nc_3_4 {l : Launch} {G : Gx} (hF : SF l G) : va_Nc (exN 3) (exN 4) G.2.1 := by
  obtain ⟨b, -, hn⟩ := hF.2.2.2.2
  exact va_Nc.of (flat_of_before _ hn _ (List.mem_of_getElem? (i := 439) rfl))
set_option maxHeartbeats 4000000 in
set_option maxRecDepth 100000 in
theorem SF.nc_3_5 {l : Launch} {G : Gx} (hF : SF l G) : va_Nc (exN 3) (exN 5) G.2.1 := by
  obtain ⟨b, -, hn⟩ := hF.2.2.2.2
  exact va_Nc.of (flat_of_before _ hn _ (List.mem_of_getElem? (i := 460) rfl))
set_option maxHeartbeats 4000000 in
set_option maxRecDepth 100000 in
theorem SF.nc_3_6 {l : Launch} {G : Gx} (hF : SF l G) : va_Nc (exN 3) (exN 6) G.2.1 := by
  obtain ⟨b, -, hn⟩ := hF.2.2.2.2
  exact va_Nc.of (flat_of_before _ hn _ (List.mem_of_getElem? (i := 481) rfl))
set_option maxHeartbeats 4000000 in
set_option maxRecDepth 100000 in
theorem SF.nc_4_1 {l : Launch} {G : Gx} (hF : SF l G) : va_Nc (exN 4) (exN 1) G.2.1 := by
  obtain ⟨b, -, hn⟩ := hF.2.2.2.2
  exact va_Nc.of (flat_of_before _ hn _ (List.mem_of_getElem? (i := 420) rfl))
set_option maxHeartbeats 4000000 in
set_option maxRecDepth 100000 in
theorem SF.nc_4_2 {l : Launch} {G : Gx} (hF : SF l G) : va_Nc (exN 4) (exN 2) G.2.1 := by
  obtain ⟨b, -, hn⟩ := hF.2.2.2.2
  exact va_Nc.of (flat_of_before _ hn _ (List.mem_of_getElem? (i := 378) rfl))
set_option maxHeartbeats 4000000 in
set_option maxRecDepth 100000 in
theorem SF.nc_4_3 {l : Launch} {G : Gx} (hF : SF l G) : va_Nc (exN 4) (exN 3) G.2.1 := by
  obtain ⟨b, -, hn⟩ := hF.2.2.2.2
  exact va_Nc.of (flat_of_before _ hn _ (List.mem_of_getElem? (i := 399) rfl))
set_option maxHeartbeats 4000000 in
set_option maxRecDepth 100000 in
theorem SF.nc_4_5 {l : Launch} {G : Gx} (hF : SF l G) : va_Nc (exN 4) (exN 5) G.2.1 := by
  obtain ⟨b, -, hn⟩ := hF.2.2.2.2
  exact va_Nc.of (flat_of_before _ hn _ (List.mem_of_getElem? (i := 461) rfl))
set_option maxHeartbeats 4000000 in
set_option maxRecDepth 100000 in
theorem SF.nc_4_6 {l : Launch} {G : Gx} (hF : SF l G) : va_Nc (exN 4) (exN 6) G.2.1 := by
  obtain ⟨b, -, hn⟩ := hF.2.2.2.2
  exact va_Nc.of (flat_of_before _ hn _ (List.mem_of_getElem? (i := 482) rfl))
set_option maxHeartbeats 4000000 in
set_option maxRecDepth 100000 in
theorem SF.nc_5_1 {l : Launch} {G : Gx} (hF : SF l G) : va_Nc (exN 5) (exN 1) G.2.1 := by
  obtain ⟨b, -, hn⟩ := hF.2.2.2.2
  exact va_Nc.of (flat_of_before _ hn _ (List.mem_of_getElem? (i := 421) rfl))
set_option maxHeartbeats 4000000 in
set_option maxRecDepth 100000 in
theorem SF.nc_5_2 {l : Launch} {G : Gx} (hF : SF l G) : va_Nc (exN 5) (exN 2) G.2.1 := by
  obtain ⟨b, -, hn⟩ := hF.2.2.2.2
  exact va_Nc.of (flat_of_before _ hn _ (List.mem_of_getElem? (i := 379) rfl))
set_option maxHeartbeats 4000000 in
set_option maxRecDepth 100000 in
theorem SF.nc_5_3 {l : Launch} {G : Gx} (hF : SF l G) : va_Nc (exN 5) (exN 3) G.2.1 := by
  obtain ⟨b, -, hn⟩ := hF.2.2.2.2
  exact va_Nc.of (flat_of_before _ hn _ (List.mem_of_getElem? (i := 400) rfl))
set_option maxHeartbeats 4000000 in
set_option maxRecDepth 100000 in
theorem SF.nc_5_4 {l : Launch} {G : Gx} (hF : SF l G) : va_Nc (exN 5) (exN 4) G.2.1 := by
  obtain ⟨b, -, hn⟩ := hF.2.2.2.2
  exact va_Nc.of (flat_of_before _ hn _ (List.mem_of_getElem? (i := 440) rfl))
set_option maxHeartbeats 4000000 in
set_option maxRecDepth 100000 in
theorem SF.nc_5_6 {l : Launch} {G : Gx} (hF : SF l G) : va_Nc (exN 5) (exN 6) G.2.1 := by
  obtain ⟨b, -, hn⟩ := hF.2.2.2.2
  exact va_Nc.of (flat_of_before _ hn _ (List.mem_of_getElem? (i := 483) rfl))
set_option maxHeartbeats 4000000 in
set_option maxRecDepth 100000 in
theorem SF.nc_6_1 {l : Launch} {G : Gx} (hF : SF l G) : va_Nc (exN 6) (exN 1) G.2.1 := by
  obtain ⟨b, -, hn⟩ := hF.2.2.2.2
  exact va_Nc.of (flat_of_before _ hn _ (List.mem_of_getElem? (i := 423) rfl))
set_option maxHeartbeats 4000000 in
set_option maxRecDepth 100000 in
theorem SF.nc_6_2 {l : Launch} {G : Gx} (hF : SF l G) : va_Nc (exN 6) (exN 2) G.2.1 := by
  obtain ⟨b, -, hn⟩ := hF.2.2.2.2
  exact va_Nc.of (flat_of_before _ hn _ (List.mem_of_getElem? (i := 382) rfl))
set_option maxHeartbeats 4000000 in
set_option maxRecDepth 100000 in
theorem SF.nc_6_3 {l : Launch} {G : Gx} (hF : SF l G) : va_Nc (exN 6) (exN 3) G.2.1 := by
  obtain ⟨b, -, hn⟩ := hF.2.2.2.2
  exact va_Nc.of (flat_of_before _ hn _ (List.mem_of_getElem? (i := 403) rfl))
set_option maxHeartbeats 4000000 in
set_option maxRecDepth 100000 in
theorem SF.nc_6_4 {l : Launch} {G : Gx} (hF : SF l G) : va_Nc (exN 6) (exN 4) G.2.1 := by
  obtain ⟨b, -, hn⟩ := hF.2.2.2.2
  exact va_Nc.of (flat_of_before _ hn _ (List.mem_of_getElem? (i := 443) rfl))
set_option maxHeartbeats 4000000 in
set_option maxRecDepth 100000 in
theorem SF.nc_6_5 {l : Launch} {G : Gx} (hF : SF l G) : va_Nc (exN 6) (exN 5) G.2.1 := by
  obtain ⟨b, -, hn⟩ := hF.2.2.2.2
  exact va_Nc.of (flat_of_before _ hn _ (List.mem_of_getElem? (i := 464) rfl))
