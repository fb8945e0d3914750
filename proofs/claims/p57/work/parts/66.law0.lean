/-! The law: totals; facts of the exceptions' classes -/
set_option maxHeartbeats 4000000 in
set_option maxRecDepth 100000 in
theorem k11_totalMoney {l : Launch} {G : Gx} (hF : SF l G) {K : Nat → Nat → Nat} {S : SV} {F : Nat → Int32} {X : va_W} : MI l G yX11_totalMoney cX11_totalMoney 1 .int 2 0 0 [.ref (K 7 0)] (stW G (K 0) S ++ (dmO G K F ++ X)) (fun r _ => r = rsum 6 (S.2.1 0)) (fun _ : Unit => stW G (K 0) S ++ (dmO G K F ++ X)) := by
  refine mt_of hF (by decide) (Nat.le_of_ble_eq_true rfl) ?_
  intro p e s m below meth c C hin ls hl H locs hw
  have hl : lv_has ls 1 [(0, .ref (K 7 0))] := hl
  refine lv_aload_n C.1 C.2.1 dX11_totalMoney_0 rfl (lv_at hl 0 rfl) ?_
  refine r_get C hw 19 rfl rfl in_X11 0 (by decide) fl_X11_10 rfl (v := .ref (K 0 0)) rfl dX11_totalMoney_1 ?_
  refine r_get C hw 0 rfl rfl in_X9 0 (by decide) fl_X11_73 rfl (v := .ref (K 0 1)) rfl dX11_totalMoney_4 ?_
  refine r_get C hw 1 rfl rfl in_X8 0 (by decide) fl_X11_130 rfl (v := .ref (K 0 2)) rfl dX11_totalMoney_7 ?_
  refine r_vi C hw (k7_sum hF (strow_0 G (K 0) S (dmO G K F ++ X)) (by decide) (strow_e G (K 0) S (dmO G K F ++ X) 0)) ml_X11_148 yf_X7_sum 2 rfl rfl (As := []) rfl rfl ⟨(Nat.le_of_ble_eq_true rfl), (Nat.le_of_ble_eq_true rfl)⟩ ⟨(Nat.le_of_ble_eq_true rfl), (Nat.le_of_ble_eq_true rfl)⟩ hl.1 (Nat.le_of_ble_eq_true rfl) dX11_totalMoney_10 (fun r_10 _ H locs hp_10 hw => ?_)
  obtain rfl : r_10 = rsum 6 (S.2.1 0) := hp_10
  replace hw : WH G s (stW G (K 0) S ++ (dmO G K F ++ X)) H locs := hw
  exact r_iret C hw rfl rfl () (rfl) rfl (Nat.le_of_ble_eq_true rfl) (Nat.le_of_ble_eq_true rfl) dX11_totalMoney_13

set_option maxHeartbeats 4000000 in
set_option maxRecDepth 100000 in
theorem k11_totalDrops {l : Launch} {G : Gx} (hF : SF l G) {K : Nat → Nat → Nat} {S : SV} {F : Nat → Int32} {X : va_W} : MI l G yX11_totalDrops cX11_totalDrops 1 .int 2 0 0 [.ref (K 7 0)] (stW G (K 0) S ++ (dmO G K F ++ X)) (fun r _ => r = rsum 6 (S.2.1 1)) (fun _ : Unit => stW G (K 0) S ++ (dmO G K F ++ X)) := by
  refine mt_of hF (by decide) (Nat.le_of_ble_eq_true rfl) ?_
  intro p e s m below meth c C hin ls hl H locs hw
  have hl : lv_has ls 1 [(0, .ref (K 7 0))] := hl
  refine lv_aload_n C.1 C.2.1 dX11_totalDrops_0 rfl (lv_at hl 0 rfl) ?_
  refine r_get C hw 19 rfl rfl in_X11 0 (by decide) fl_X11_10 rfl (v := .ref (K 0 0)) rfl dX11_totalDrops_1 ?_
  refine r_get C hw 0 rfl rfl in_X9 0 (by decide) fl_X11_73 rfl (v := .ref (K 0 1)) rfl dX11_totalDrops_4 ?_
  refine r_get C hw 1 rfl rfl in_X8 1 (by decide) fl_X11_139 rfl (v := .ref (K 0 4)) rfl dX11_totalDrops_7 ?_
  refine r_vi C hw (k7_sum hF (strow_1 G (K 0) S (dmO G K F ++ X)) (by decide) (strow_e G (K 0) S (dmO G K F ++ X) 1)) ml_X11_148 yf_X7_sum 4 rfl rfl (As := []) rfl rfl ⟨(Nat.le_of_ble_eq_true rfl), (Nat.le_of_ble_eq_true rfl)⟩ ⟨(Nat.le_of_ble_eq_true rfl), (Nat.le_of_ble_eq_true rfl)⟩ hl.1 (Nat.le_of_ble_eq_true rfl) dX11_totalDrops_10 (fun r_10 _ H locs hp_10 hw => ?_)
  obtain rfl : r_10 = rsum 6 (S.2.1 1) := hp_10
  replace hw : WH G s (stW G (K 0) S ++ (dmO G K F ++ X)) H locs := hw
  exact r_iret C hw rfl rfl () (rfl) rfl (Nat.le_of_ble_eq_true rfl) (Nat.le_of_ble_eq_true rfl) dX11_totalDrops_13

set_option maxHeartbeats 4000000 in
set_option maxRecDepth 100000 in
theorem SF.nc_1_2 {l : Launch} {G : Gx} (hF : SF l G) : va_Nc (exN 1) (exN 2) G.2.1 := by
  obtain ⟨b, -, hn⟩ := hF.2.2.2.2
  exact va_Nc.of (flat_of_before _ hn _ (List.mem_of_getElem? (i := 375) rfl))
set_option maxHeartbeats 4000000 in
set_option maxRecDepth 100000 in
theorem SF.nc_1_3 {l : Launch} {G : Gx} (hF : SF l G) : va_Nc (exN 1) (exN 3) G.2.1 := by
  obtain ⟨b, -, hn⟩ := hF.2.2.2.2
  exact va_Nc.of (flat_of_before _ hn _ (List.mem_of_getElem? (i := 395) rfl))
set_option maxHeartbeats 4000000 in
set_option maxRecDepth 100000 in
theorem SF.nc_1_4 {l : Launch} {G : Gx} (hF : SF l G) : va_Nc (exN 1) (exN 4) G.2.1 := by
  obtain ⟨b, -, hn⟩ := hF.2.2.2.2
  exact va_Nc.of (flat_of_before _ hn _ (List.mem_of_getElem? (i := 433) rfl))
set_option maxHeartbeats 4000000 in
set_option maxRecDepth 100000 in
theorem SF.nc_1_5 {l : Launch} {G : Gx} (hF : SF l G) : va_Nc (exN 1) (exN 5) G.2.1 := by
  obtain ⟨b, -, hn⟩ := hF.2.2.2.2
  exact va_Nc.of (flat_of_before _ hn _ (List.mem_of_getElem? (i := 453) rfl))
set_option maxHeartbeats 4000000 in
set_option maxRecDepth 100000 in
theorem SF.nc_2_1 {l : Launch} {G : Gx} (hF : SF l G) : va_Nc (exN 2) (exN 1) G.2.1 := by
  obtain ⟨b, -, hn⟩ := hF.2.2.2.2
  exact va_Nc.of (flat_of_before _ hn _ (List.mem_of_getElem? (i := 415) rfl))
set_option maxHeartbeats 4000000 in
set_option maxRecDepth 100000 in
theorem SF.nc_2_3 {l : Launch} {G : Gx} (hF : SF l G) : va_Nc (exN 2) (exN 3) G.2.1 := by
  obtain ⟨b, -, hn⟩ := hF.2.2.2.2
  exact va_Nc.of (flat_of_before _ hn _ (List.mem_of_getElem? (i := 396) rfl))
set_option maxHeartbeats 4000000 in
set_option maxRecDepth 100000 in
theorem SF.nc_2_4 {l : Launch} {G : Gx} (hF : SF l G) : va_Nc (exN 2) (exN 4) G.2.1 := by
  obtain ⟨b, -, hn⟩ := hF.2.2.2.2
  exact va_Nc.of (flat_of_before _ hn _ (List.mem_of_getElem? (i := 434) rfl))
set_option maxHeartbeats 4000000 in
set_option maxRecDepth 100000 in
theorem SF.nc_2_5 {l : Launch} {G : Gx} (hF : SF l G) : va_Nc (exN 2) (exN 5) G.2.1 := by
  obtain ⟨b, -, hn⟩ := hF.2.2.2.2
  exact va_Nc.of (flat_of_before _ hn _ (List.mem_of_getElem? (i := 454) rfl))
set_option maxHeartbeats 4000000 in
set_option maxRecDepth 100000 in
theorem SF.nc_3_1 {l : Launch} {G : Gx} (hF : SF l G) : va_Nc (exN 3) (exN 1) G.2.1 := by
  obtain ⟨b, -, hn⟩ := hF.2.2.2.2
  exact va_Nc.of (flat_of_before _ hn _ (List.mem_of_getElem? (i := 416) rfl))
set_option maxHeartbeats 4000000 in
set_option maxRecDepth 100000 in
theorem SF.nc_3_2 {l : Launch} {G : Gx} (hF : SF l G) : va_Nc (exN 3) (exN 2) G.2.1 := by
  obtain ⟨b, -, hn⟩ := hF.2.2.2.2
  exact va_Nc.of (flat_of_before _ hn _ (List.mem_of_getElem? (i := 376) rfl))
set_option maxHeartbeats 4000000 in
set_option maxRecDepth 100000 in
theorem SF.nc_3_4 {l : Launch} {G : Gx} (hF : SF l G) : va_Nc (exN 3) (exN 4) G.2.1 := by
  obtain ⟨b, -, hn⟩ := hF.2.2.2.2
  exact va_Nc.of (flat_of_before _ hn _ (List.mem_of_getElem? (i := 435) rfl))
set_option maxHeartbeats 4000000 in
set_option maxRecDepth 100000 in
theorem SF.nc_3_5 {l : Launch} {G : Gx} (hF : SF l G) : va_Nc (exN 3) (exN 5) G.2.1 := by
  obtain ⟨b, -, hn⟩ := hF.2.2.2.2
  exact va_Nc.of (flat_of_before _ hn _ (List.mem_of_getElem? (i := 455) rfl))
set_option maxHeartbeats 4000000 in
set_option maxRecDepth 100000 in
theorem SF.nc_4_1 {l : Launch} {G : Gx} (hF : SF l G) : va_Nc (exN 4) (exN 1) G.2.1 := by
  obtain ⟨b, -, hn⟩ := hF.2.2.2.2
  exact va_Nc.of (flat_of_before _ hn _ (List.mem_of_getElem? (i := 417) rfl))
set_option maxHeartbeats 4000000 in
set_option maxRecDepth 100000 in
theorem SF.nc_4_2 {l : Launch} {G : Gx} (hF : SF l G) : va_Nc (exN 4) (exN 2) G.2.1 := by
  obtain ⟨b, -, hn⟩ := hF.2.2.2.2
  exact va_Nc.of (flat_of_before _ hn _ (List.mem_of_getElem? (i := 377) rfl))
set_option maxHeartbeats 4000000 in
set_option maxRecDepth 100000 in
theorem SF.nc_4_3 {l : Launch} {G : Gx} (hF : SF l G) : va_Nc (exN 4) (exN 3) G.2.1 := by
  obtain ⟨b, -, hn⟩ := hF.2.2.2.2
  exact va_Nc.of (flat_of_before _ hn _ (List.mem_of_getElem? (i := 397) rfl))
set_option maxHeartbeats 4000000 in
set_option maxRecDepth 100000 in
theorem SF.nc_4_5 {l : Launch} {G : Gx} (hF : SF l G) : va_Nc (exN 4) (exN 5) G.2.1 := by
  obtain ⟨b, -, hn⟩ := hF.2.2.2.2
  exact va_Nc.of (flat_of_before _ hn _ (List.mem_of_getElem? (i := 456) rfl))
set_option maxHeartbeats 4000000 in
set_option maxRecDepth 100000 in
theorem SF.nc_5_1 {l : Launch} {G : Gx} (hF : SF l G) : va_Nc (exN 5) (exN 1) G.2.1 := by
  obtain ⟨b, -, hn⟩ := hF.2.2.2.2
  exact va_Nc.of (flat_of_before _ hn _ (List.mem_of_getElem? (i := 418) rfl))
set_option maxHeartbeats 4000000 in
set_option maxRecDepth 100000 in
theorem SF.nc_5_2 {l : Launch} {G : Gx} (hF : SF l G) : va_Nc (exN 5) (exN 2) G.2.1 := by
  obtain ⟨b, -, hn⟩ := hF.2.2.2.2
  exact va_Nc.of (flat_of_before _ hn _ (List.mem_of_getElem? (i := 378) rfl))
set_option maxHeartbeats 4000000 in
set_option maxRecDepth 100000 in
theorem SF.nc_5_3 {l : Launch} {G : Gx} (hF : SF l G) : va_Nc (exN 5) (exN 3) G.2.1 := by
  obtain ⟨b, -, hn⟩ := hF.2.2.2.2
  exact va_Nc.of (flat_of_before _ hn _ (List.mem_of_getElem? (i := 398) rfl))
set_option maxHeartbeats 4000000 in
set_option maxRecDepth 100000 in
theorem SF.nc_5_4 {l : Launch} {G : Gx} (hF : SF l G) : va_Nc (exN 5) (exN 4) G.2.1 := by
  obtain ⟨b, -, hn⟩ := hF.2.2.2.2
  exact va_Nc.of (flat_of_before _ hn _ (List.mem_of_getElem? (i := 436) rfl))
set_option maxHeartbeats 4000000 in
set_option maxRecDepth 100000 in
theorem SF.nc_6_1 {l : Launch} {G : Gx} (hF : SF l G) : va_Nc (exN 6) (exN 1) G.2.1 := by
  obtain ⟨b, -, hn⟩ := hF.2.2.2.2
  exact va_Nc.of (flat_of_before _ hn _ (List.mem_of_getElem? (i := 420) rfl))
set_option maxHeartbeats 4000000 in
set_option maxRecDepth 100000 in
theorem SF.nc_6_2 {l : Launch} {G : Gx} (hF : SF l G) : va_Nc (exN 6) (exN 2) G.2.1 := by
  obtain ⟨b, -, hn⟩ := hF.2.2.2.2
  exact va_Nc.of (flat_of_before _ hn _ (List.mem_of_getElem? (i := 381) rfl))
set_option maxHeartbeats 4000000 in
set_option maxRecDepth 100000 in
theorem SF.nc_6_3 {l : Launch} {G : Gx} (hF : SF l G) : va_Nc (exN 6) (exN 3) G.2.1 := by
  obtain ⟨b, -, hn⟩ := hF.2.2.2.2
  exact va_Nc.of (flat_of_before _ hn _ (List.mem_of_getElem? (i := 401) rfl))
set_option maxHeartbeats 4000000 in
set_option maxRecDepth 100000 in
theorem SF.nc_6_4 {l : Launch} {G : Gx} (hF : SF l G) : va_Nc (exN 6) (exN 4) G.2.1 := by
  obtain ⟨b, -, hn⟩ := hF.2.2.2.2
  exact va_Nc.of (flat_of_before _ hn _ (List.mem_of_getElem? (i := 439) rfl))
set_option maxHeartbeats 4000000 in
set_option maxRecDepth 100000 in
theorem SF.nc_6_5 {l : Launch} {G : Gx} (hF : SF l G) : va_Nc (exN 6) (exN 5) G.2.1 := by
  obtain ⟨b, -, hn⟩ := hF.2.2.2.2
  exact va_Nc.of (flat_of_before _ hn _ (List.mem_of_getElem? (i := 459) rfl))
