/-! DropMarket: save, restore, sums, means -/
set_option maxHeartbeats 4000000 in
set_option maxRecDepth 100000 in
theorem x11_spreadBySums {l : Launch} {G : Gx} (hF : SF l G) {K : Nat → Nat → Nat} {S : SV} {f g : Nat → Int32} {F : Nat → Int32} {X : va_W} (ok : okS S) : XI l G yX11_spreadBySums cX11_spreadBySums 1 .int 7 1 6 [.ref (K 7 0)] (stW G (K 0) S ++ (dmO G K F ++ (suW G (K 4) f g ++ X))) (fun x _ => x = ssR (guR S f g (nO S)).1 (guR S f g (nO S)).2 ∧ x ≠ 1000) (fun _ : Unit => stW G (K 0) S ++ (dmO G K F ++ (suW G (K 4) ((guR S f g (nO S)).1) ((guR S f g (nO S)).2) ++ X))) (fun k => k = 5 ∧ ssR (guR S f g (nO S)).1 (guR S f g (nO S)).2 = 1000) (fun _ => stW G (K 0) S ++ (dmO G K F ++ (suW G (K 4) ((guR S f g (nO S)).1) ((guR S f g (nO S)).2) ++ X))) := by
  refine mx_of hF (by decide) (Nat.le_of_ble_eq_true rfl) ?_
  intro p e s m below meth c C hnt ls hl H locs hw
  have hl : lv_has ls 1 [(0, .ref (K 7 0))] := hl
  refine lv_aload_n C.1 C.2.1 dX11_spreadBySums_0 rfl (lv_at hl 0 rfl) ?_
  refine r_get C hw 19 rfl rfl in_X11 4 (by decide) fl_X11_32 rfl (v := .ref (K 4 0)) rfl dX11_spreadBySums_1 ?_
  refine lv_aload_n C.1 C.2.1 dX11_spreadBySums_4 rfl (lv_at hl 0 rfl) ?_
  refine r_get C hw 19 rfl rfl in_X11 0 (by decide) fl_X11_10 rfl (v := .ref (K 0 0)) rfl dX11_spreadBySums_5 ?_
  refine r_get C hw 0 rfl rfl in_X9 1 (by decide) fl_X11_161 rfl (v := .ref (K 0 6)) rfl dX11_spreadBySums_8 ?_
  replace hw : WH G s (stW G (K 0) S ++ (suW G (K 4) f g ++ (dmO G K F ++ X))) H locs := hw.perm ((List.perm_append_comm_assoc _ _ _).append_left _)
  refine r_vv C hw (k6_gather hF (a := K 0) (S := S) (u := K 4) (f := f) (g := g) (X := (dmO G K F ++ X)) ok.1 ok.2.1) ml_X11_209 yf_X6_gather 19 rfl rfl (As := [.ref (K 0 6)]) rfl rfl ⟨(Nat.le_of_ble_eq_true rfl), (Nat.le_of_ble_eq_true rfl)⟩ ⟨(Nat.le_of_ble_eq_true rfl), (Nat.le_of_ble_eq_true rfl)⟩ hl.1 (Nat.le_of_ble_eq_true rfl) dX11_spreadBySums_11 (fun _ H locs hp_11 hw => ?_)
  replace hw : WH G s (stW G (K 0) S ++ (suW G (K 4) ((guR S f g (nO S)).1) ((guR S f g (nO S)).2) ++ (dmO G K F ++ X))) H locs := hw
  replace hw : WH G s (stW G (K 0) S ++ (dmO G K F ++ (suW G (K 4) ((guR S f g (nO S)).1) ((guR S f g (nO S)).2) ++ X))) H locs := hw.perm ((List.perm_append_comm_assoc _ _ _).append_left _)
  refine lv_aload_n C.1 C.2.1 dX11_spreadBySums_14 rfl (lv_at hl 0 rfl) ?_
  refine r_get C hw 19 rfl rfl in_X11 4 (by decide) fl_X11_32 rfl (v := .ref (K 4 0)) rfl dX11_spreadBySums_15 ?_
  replace hw : WH G s (stW G (K 0) S ++ (suW G (K 4) ((guR S f g (nO S)).1) ((guR S f g (nO S)).2) ++ (dmO G K F ++ X))) H locs := hw.perm ((List.perm_append_comm_assoc _ _ _).append_left _)
  refine r_vi C hw (k6_spreadOfSums hF (a := K 0) (S := S) (u := K 4) (f := (guR S f g (nO S)).1) (g := (guR S f g (nO S)).2) (X := (dmO G K F ++ X))) ml_X11_213 yf_X6_spreadOfSums 19 rfl rfl (As := []) rfl rfl ⟨(Nat.le_of_ble_eq_true rfl), (Nat.le_of_ble_eq_true rfl)⟩ ⟨(Nat.le_of_ble_eq_true rfl), (Nat.le_of_ble_eq_true rfl)⟩ hl.1 (Nat.le_of_ble_eq_true rfl) dX11_spreadBySums_18 (fun r_18 _ H locs hp_18 hw => ?_)
  obtain rfl : r_18 = ssR (guR S f g (nO S)).1 (guR S f g (nO S)).2 := hp_18
  replace hw : WH G s (stW G (K 0) S ++ (suW G (K 4) ((guR S f g (nO S)).1) ((guR S f g (nO S)).2) ++ (dmO G K F ++ X))) H locs := hw
  replace hw : WH G s (stW G (K 0) S ++ (dmO G K F ++ (suW G (K 4) ((guR S f g (nO S)).1) ((guR S f g (nO S)).2) ++ X))) H locs := hw.perm ((List.perm_append_comm_assoc _ _ _).append_left _)
  refine x_si C hw (x11_requireSpread hF (ssR (guR S f g (nO S)).1 (guR S f g (nO S)).2) (X := stW G (K 0) S ++ (dmO G K F ++ (suW G (K 4) ((guR S f g (nO S)).1) ((guR S f g (nO S)).2) ++ X)))) ml_X11_206 yf_X11_requireSpread (As := [.int (ssR (guR S f g (nO S)).1 (guR S f g (nO S)).2)]) rfl rfl ⟨(Nat.le_of_ble_eq_true rfl), (Nat.le_of_ble_eq_true rfl)⟩ ⟨(Nat.le_of_ble_eq_true rfl), (Nat.le_of_ble_eq_true rfl)⟩ hl.1 (Nat.le_of_ble_eq_true rfl) dX11_spreadBySums_21 hnt (fun k hk => ⟨hk, rfl⟩) (Nat.le_of_ble_eq_true rfl) (Nat.le_of_ble_eq_true rfl) (fun r_21 u_21 H locs hp_21 hw => ?_)
  replace hw : WH G s (stW G (K 0) S ++ (dmO G K F ++ (suW G (K 4) ((guR S f g (nO S)).1) ((guR S f g (nO S)).2) ++ X))) H locs := hw
  refine vx_ret ?_
  exact r_iret C hw rfl rfl () (by obtain ⟨e1, e2⟩ := hp_21; exact ⟨e1, e1 ▸ e2⟩) rfl (Nat.le_of_ble_eq_true rfl) (Nat.le_of_ble_eq_true rfl) dX11_spreadBySums_24

set_option maxHeartbeats 4000000 in
set_option maxRecDepth 100000 in
theorem x11_requirePoolPrice {l : Launch} {G : Gx} (hF : SF l G) {K : Nat → Nat → Nat} {S : SV} {X : va_W} {q : Nat} {t : Int32 × Int32 × Int32} : XI l G yX11_requirePoolPrice cX11_requirePoolPrice 1 .int 6 1 6 [.ref q] (stW G (K 0) S ++ ((q, .inr (7, pcE t)) :: X)) (fun x _ => x = t.1 ∧ t.1 ≠ -1) (fun _ : Unit => stW G (K 0) S ++ X) (fun k => k = 5 ∧ t.1 = -1) (fun _ => stW G (K 0) S ++ X) := by
  refine mx_of hF (by decide) (Nat.le_of_ble_eq_true rfl) ?_
  intro p e s m below meth c C hnt ls hl H locs hw
  have hl : lv_has ls 1 [(0, .ref q)] := hl
  refine lv_aload_n C.1 C.2.1 dX11_requirePoolPrice_0 rfl (lv_at hl 0 rfl) ?_
  refine r_get C hw 19 rfl rfl in_X5 0 (by decide) fl_X11_289 rfl (v := .int t.1) rfl dX11_requirePoolPrice_1 ?_
  refine lv_iconst (v := -1) C.1 C.2.1 dX11_requirePoolPrice_4 (by decide) ?_
  refine lv_icmp_ne (tgt := 19) C.1 C.2.1 dX11_requirePoolPrice_5 (by decide) (fun c_5 => ?_) (fun c_5 => ?_)
  · refine lv_aload_n C.1 C.2.1 dX11_requirePoolPrice_19 rfl (lv_at hl 0 rfl) ?_
    refine r_get C hw 19 rfl rfl in_X5 0 (by decide) fl_X11_289 rfl (v := .int t.1) rfl dX11_requirePoolPrice_20 ?_
    replace hw : WH G s (stW G (K 0) S ++ X) H locs := hw.fewer (List.Sublist.append_left (List.sublist_cons_self _ _) _)
    refine vx_ret ?_
    exact r_iret C hw rfl rfl () (⟨rfl, c_5⟩) rfl (Nat.le_of_ble_eq_true rfl) (Nat.le_of_ble_eq_true rfl) dX11_requirePoolPrice_23
  · replace hw : WH G s (stW G (K 0) S ++ X) H locs := hw.fewer (List.Sublist.append_left (List.sublist_cons_self _ _) _)
    exact x_thr5W C hw (sr_412 hF) (⟨rfl, c_5⟩) rfl hnt hl.1 dX11_requirePoolPrice_8 dX11_requirePoolPrice_11 dX11_requirePoolPrice_12 dX11_requirePoolPrice_15 dX11_requirePoolPrice_18 (Nat.le_of_ble_eq_true rfl) (Nat.le_of_ble_eq_true rfl) (Nat.le_of_ble_eq_true rfl) (Nat.le_of_ble_eq_true rfl) (Nat.le_of_ble_eq_true rfl) (Nat.le_of_ble_eq_true rfl)

set_option maxHeartbeats 4000000 in
set_option maxRecDepth 100000 in
theorem x11_poolPrice {l : Launch} {G : Gx} (hF : SF l G) {K : Nat → Nat → Nat} {S : SV} {F : Nat → Int32} {X : va_W} (ok : okS S) : XI l G yX11_poolPrice cX11_poolPrice 1 .int 7 2 9 [.ref (K 7 0)] (stW G (K 0) S ++ (dmO G K F ++ X)) (fun x _ => x = (poolS S (nO S)).1 ∧ (poolS S (nO S)).1 ≠ -1) (fun _ : Unit => stW G (K 0) S ++ (dmO G K F ++ X)) (fun k => k = 5 ∧ (poolS S (nO S)).1 = -1) (fun _ => stW G (K 0) S ++ (dmO G K F ++ X)) := by
  refine mx_of hF (by decide) (Nat.le_of_ble_eq_true rfl) ?_
  intro p e s m below meth c C hnt ls hl H locs hw
  have hl : lv_has ls 1 [(0, .ref (K 7 0))] := hl
  refine lv_aload_n C.1 C.2.1 dX11_poolPrice_0 rfl (lv_at hl 0 rfl) ?_
  refine r_get C hw 19 rfl rfl in_X11 0 (by decide) fl_X11_10 rfl (v := .ref (K 0 0)) rfl dX11_poolPrice_1 ?_
  refine r_get C hw 0 rfl rfl in_X9 1 (by decide) fl_X11_161 rfl (v := .ref (K 0 6)) rfl dX11_poolPrice_4 ?_
  refine r_vr C hw (k1_poolByTrying hF (a := (K 0)) (S := S) (X := (dmO G K F ++ X)) ok.1 ok.2.1) ml_X11_249 yf_X1_poolByTrying 6 rfl rfl (As := []) rfl rfl ⟨(Nat.le_of_ble_eq_true rfl), (Nat.le_of_ble_eq_true rfl)⟩ ⟨(Nat.le_of_ble_eq_true rfl), (Nat.le_of_ble_eq_true rfl)⟩ hl.1 (Nat.le_of_ble_eq_true rfl) dX11_poolPrice_7 (fun _ q_7 H locs hp_7 hw => ?_)
  replace hw : WH G s (stW G (K 0) S ++ (((q_7, .inr (7, pcE (poolS S (nO S)))) :: (dmO G K F ++ X)))) H locs := hw
  refine x_si C hw (x11_requirePoolPrice hF (K := K) (S := S) (t := (poolS S (nO S))) (X := dmO G K F ++ X)) ml_X11_253 yf_X11_requirePoolPrice (As := [.ref q_7]) rfl rfl ⟨(Nat.le_of_ble_eq_true rfl), (Nat.le_of_ble_eq_true rfl)⟩ ⟨(Nat.le_of_ble_eq_true rfl), (Nat.le_of_ble_eq_true rfl)⟩ hl.1 (Nat.le_of_ble_eq_true rfl) dX11_poolPrice_10 hnt (fun k hk => ⟨hk, rfl⟩) (Nat.le_of_ble_eq_true rfl) (Nat.le_of_ble_eq_true rfl) (fun r_10 u_10 H locs hp_10 hw => ?_)
  replace hw : WH G s (stW G (K 0) S ++ (dmO G K F ++ X)) H locs := hw
  refine vx_ret ?_
  exact r_iret C hw rfl rfl () (hp_10) rfl (Nat.le_of_ble_eq_true rfl) (Nat.le_of_ble_eq_true rfl) dX11_poolPrice_13

set_option maxHeartbeats 4000000 in
set_option maxRecDepth 100000 in
theorem x11_poolPriceBySums {l : Launch} {G : Gx} (hF : SF l G) {K : Nat → Nat → Nat} {S : SV} {f g : Nat → Int32} {F : Nat → Int32} {X : va_W} (ok : okS S) : XI l G yX11_poolPriceBySums cX11_poolPriceBySums 1 .int 7 2 9 [.ref (K 7 0)] (stW G (K 0) S ++ (dmO G K F ++ (suW G (K 4) f g ++ X))) (fun x _ => x = (psR (guR S f g (nO S)).1 (guR S f g (nO S)).2 99).1 ∧ (psR (guR S f g (nO S)).1 (guR S f g (nO S)).2 99).1 ≠ -1) (fun _ : Unit => stW G (K 0) S ++ (dmO G K F ++ (suW G (K 4) ((guR S f g (nO S)).1) ((guR S f g (nO S)).2) ++ X))) (fun k => k = 5 ∧ (psR (guR S f g (nO S)).1 (guR S f g (nO S)).2 99).1 = -1) (fun _ => stW G (K 0) S ++ (suW G (K 4) ((guR S f g (nO S)).1) ((guR S f g (nO S)).2) ++ (dmO G K F ++ X))) := by
  refine mx_of hF (by decide) (Nat.le_of_ble_eq_true rfl) ?_
  intro p e s m below meth c C hnt ls hl H locs hw
  have hl : lv_has ls 1 [(0, .ref (K 7 0))] := hl
  refine lv_aload_n C.1 C.2.1 dX11_poolPriceBySums_0 rfl (lv_at hl 0 rfl) ?_
  refine r_get C hw 19 rfl rfl in_X11 4 (by decide) fl_X11_32 rfl (v := .ref (K 4 0)) rfl dX11_poolPriceBySums_1 ?_
  refine lv_aload_n C.1 C.2.1 dX11_poolPriceBySums_4 rfl (lv_at hl 0 rfl) ?_
  refine r_get C hw 19 rfl rfl in_X11 0 (by decide) fl_X11_10 rfl (v := .ref (K 0 0)) rfl dX11_poolPriceBySums_5 ?_
  refine r_get C hw 0 rfl rfl in_X9 1 (by decide) fl_X11_161 rfl (v := .ref (K 0 6)) rfl dX11_poolPriceBySums_8 ?_
  replace hw : WH G s (stW G (K 0) S ++ (suW G (K 4) f g ++ (dmO G K F ++ X))) H locs := hw.perm ((List.perm_append_comm_assoc _ _ _).append_left _)
  refine r_vv C hw (k6_gather hF (a := K 0) (S := S) (u := K 4) (f := f) (g := g) (X := (dmO G K F ++ X)) ok.1 ok.2.1) ml_X11_209 yf_X6_gather 19 rfl rfl (As := [.ref (K 0 6)]) rfl rfl ⟨(Nat.le_of_ble_eq_true rfl), (Nat.le_of_ble_eq_true rfl)⟩ ⟨(Nat.le_of_ble_eq_true rfl), (Nat.le_of_ble_eq_true rfl)⟩ hl.1 (Nat.le_of_ble_eq_true rfl) dX11_poolPriceBySums_11 (fun _ H locs hp_11 hw => ?_)
  replace hw : WH G s (stW G (K 0) S ++ (suW G (K 4) ((guR S f g (nO S)).1) ((guR S f g (nO S)).2) ++ (dmO G K F ++ X))) H locs := hw
  replace hw : WH G s (stW G (K 0) S ++ (dmO G K F ++ (suW G (K 4) ((guR S f g (nO S)).1) ((guR S f g (nO S)).2) ++ X))) H locs := hw.perm ((List.perm_append_comm_assoc _ _ _).append_left _)
  refine lv_aload_n C.1 C.2.1 dX11_poolPriceBySums_14 rfl (lv_at hl 0 rfl) ?_
  refine r_get C hw 19 rfl rfl in_X11 4 (by decide) fl_X11_32 rfl (v := .ref (K 4 0)) rfl dX11_poolPriceBySums_15 ?_
  replace hw : WH G s (stW G (K 0) S ++ (suW G (K 4) ((guR S f g (nO S)).1) ((guR S f g (nO S)).2) ++ (dmO G K F ++ X))) H locs := hw.perm ((List.perm_append_comm_assoc _ _ _).append_left _)
  refine r_vr C hw (k6_poolBySums hF (a := K 0) (S := S) (u := K 4) (f := (guR S f g (nO S)).1) (g := (guR S f g (nO S)).2) (X := dmO G K F ++ X)) ml_X11_257 yf_X6_poolBySums 19 rfl rfl (As := []) rfl rfl ⟨(Nat.le_of_ble_eq_true rfl), (Nat.le_of_ble_eq_true rfl)⟩ ⟨(Nat.le_of_ble_eq_true rfl), (Nat.le_of_ble_eq_true rfl)⟩ hl.1 (Nat.le_of_ble_eq_true rfl) dX11_poolPriceBySums_18 (fun _ q_18 H locs hp_18 hw => ?_)
  replace hw : WH G s (stW G (K 0) S ++ (suW G (K 4) ((guR S f g (nO S)).1) ((guR S f g (nO S)).2) ++ (((q_18, .inr (7, pcE (psR (guR S f g (nO S)).1 (guR S f g (nO S)).2 99))) :: (dmO G K F ++ X))))) H locs := hw
  replace hw : WH G s (stW G (K 0) S ++ (((q_18, .inr (7, pcE (psR (guR S f g (nO S)).1 (guR S f g (nO S)).2 99))) :: (suW G (K 4) ((guR S f g (nO S)).1) ((guR S f g (nO S)).2) ++ (dmO G K F ++ X))))) H locs := hw.perm ((List.perm_middle (l₁ := suW G (K 4) ((guR S f g (nO S)).1) ((guR S f g (nO S)).2))).append_left _)
  refine x_si C hw (x11_requirePoolPrice hF (K := K) (S := S) (t := psR (guR S f g (nO S)).1 (guR S f g (nO S)).2 99) (X := suW G (K 4) ((guR S f g (nO S)).1) ((guR S f g (nO S)).2) ++ (dmO G K F ++ X))) ml_X11_253 yf_X11_requirePoolPrice (As := [.ref q_18]) rfl rfl ⟨(Nat.le_of_ble_eq_true rfl), (Nat.le_of_ble_eq_true rfl)⟩ ⟨(Nat.le_of_ble_eq_true rfl), (Nat.le_of_ble_eq_true rfl)⟩ hl.1 (Nat.le_of_ble_eq_true rfl) dX11_poolPriceBySums_21 hnt (fun k hk => ⟨hk, rfl⟩) (Nat.le_of_ble_eq_true rfl) (Nat.le_of_ble_eq_true rfl) (fun r_21 u_21 H locs hp_21 hw => ?_)
  replace hw : WH G s (stW G (K 0) S ++ (dmO G K F ++ (suW G (K 4) ((guR S f g (nO S)).1) ((guR S f g (nO S)).2) ++ X))) H locs := hw.perm ((List.perm_append_comm_assoc _ _ _).append_left _)
  replace hw : WH G s (stW G (K 0) S ++ (dmO G K F ++ (suW G (K 4) ((guR S f g (nO S)).1) ((guR S f g (nO S)).2) ++ X))) H locs := hw
  refine vx_ret ?_
  exact r_iret C hw rfl rfl () (hp_21) rfl (Nat.le_of_ble_eq_true rfl) (Nat.le_of_ble_eq_true rfl) dX11_poolPriceBySums_24

set_option maxHeartbeats 4000000 in
set_option maxRecDepth 100000 in
theorem k11_isConsistent {l : Launch} {G : Gx} (hF : SF l G) {K : Nat → Nat → Nat} {S : SV} {f g : Nat → Int32} {F : Nat → Int32} {X : va_W} (ok : okS S) : MI l G yX11_isConsistent cX11_isConsistent 1 .boolean 5 2 6 [.ref (K 7 0)] (stW G (K 0) S ++ (dmO G K F ++ (suW G (K 4) f g ++ X))) (fun x _ => x = bI (decide (sprS S (nO S) = ssR (guR S f g (nO S)).1 (guR S f g (nO S)).2) && (decide ((poolS S (nO S)).1 = (psR (guR S f g (nO S)).1 (guR S f g (nO S)).2 99).1) && covS S))) (fun _ : Unit => stW G (K 0) S ++ (dmO G K F ++ (suW G (K 4) ((guR S f g (nO S)).1) ((guR S f g (nO S)).2) ++ X))) := by
  refine mt_of hF (by decide) (Nat.le_of_ble_eq_true rfl) ?_
  intro p e s m below meth c C hin ls hl H locs hw
  have hl : lv_has ls 1 [(0, .ref (K 7 0))] := hl
  refine lv_aload_n C.1 C.2.1 dX11_isConsistent_0 rfl (lv_at hl 0 rfl) ?_
  refine r_get C hw 19 rfl rfl in_X11 4 (by decide) fl_X11_32 rfl (v := .ref (K 4 0)) rfl dX11_isConsistent_1 ?_
  refine lv_aload_n C.1 C.2.1 dX11_isConsistent_4 rfl (lv_at hl 0 rfl) ?_
  refine r_get C hw 19 rfl rfl in_X11 0 (by decide) fl_X11_10 rfl (v := .ref (K 0 0)) rfl dX11_isConsistent_5 ?_
  refine r_get C hw 0 rfl rfl in_X9 1 (by decide) fl_X11_161 rfl (v := .ref (K 0 6)) rfl dX11_isConsistent_8 ?_
  replace hw : WH G s (stW G (K 0) S ++ (suW G (K 4) f g ++ (dmO G K F ++ X))) H locs := hw.perm ((List.perm_append_comm_assoc _ _ _).append_left _)
  refine r_vv C hw (k6_gather hF (a := K 0) (S := S) (u := K 4) (f := f) (g := g) (X := (dmO G K F ++ X)) ok.1 ok.2.1) ml_X11_209 yf_X6_gather 19 rfl rfl (As := [.ref (K 0 6)]) rfl rfl ⟨(Nat.le_of_ble_eq_true rfl), (Nat.le_of_ble_eq_true rfl)⟩ ⟨(Nat.le_of_ble_eq_true rfl), (Nat.le_of_ble_eq_true rfl)⟩ hl.1 (Nat.le_of_ble_eq_true rfl) dX11_isConsistent_11 (fun _ H locs hp_11 hw => ?_)
  replace hw : WH G s (stW G (K 0) S ++ (suW G (K 4) ((guR S f g (nO S)).1) ((guR S f g (nO S)).2) ++ (dmO G K F ++ X))) H locs := hw
  replace hw : WH G s (stW G (K 0) S ++ (dmO G K F ++ (suW G (K 4) ((guR S f g (nO S)).1) ((guR S f g (nO S)).2) ++ X))) H locs := hw.perm ((List.perm_append_comm_assoc _ _ _).append_left _)
  refine lv_aload_n C.1 C.2.1 dX11_isConsistent_14 rfl (lv_at hl 0 rfl) ?_
  refine r_get C hw 19 rfl rfl in_X11 0 (by decide) fl_X11_10 rfl (v := .ref (K 0 0)) rfl dX11_isConsistent_15 ?_
  refine r_get C hw 0 rfl rfl in_X9 1 (by decide) fl_X11_161 rfl (v := .ref (K 0 6)) rfl dX11_isConsistent_18 ?_
  refine r_vi C hw (k1_spreadOfBest hF (a := (K 0)) (S := S) (X := (dmO G K F ++ (suW G (K 4) ((guR S f g (nO S)).1) ((guR S f g (nO S)).2) ++ X))) ok.1 ok.2.1) ml_X11_203 yf_X1_spreadOfBest 6 rfl rfl (As := []) rfl rfl ⟨(Nat.le_of_ble_eq_true rfl), (Nat.le_of_ble_eq_true rfl)⟩ ⟨(Nat.le_of_ble_eq_true rfl), (Nat.le_of_ble_eq_true rfl)⟩ hl.1 (Nat.le_of_ble_eq_true rfl) dX11_isConsistent_21 (fun r_21 _ H locs hp_21 hw => ?_)
  obtain rfl : r_21 = sprS S (nO S) := hp_21
  replace hw : WH G s (stW G (K 0) S ++ (dmO G K F ++ (suW G (K 4) ((guR S f g (nO S)).1) ((guR S f g (nO S)).2) ++ X))) H locs := hw
  refine lv_aload_n C.1 C.2.1 dX11_isConsistent_24 rfl (lv_at hl 0 rfl) ?_
  refine r_get C hw 19 rfl rfl in_X11 4 (by decide) fl_X11_32 rfl (v := .ref (K 4 0)) rfl dX11_isConsistent_25 ?_
  replace hw : WH G s (stW G (K 0) S ++ (suW G (K 4) ((guR S f g (nO S)).1) ((guR S f g (nO S)).2) ++ (dmO G K F ++ X))) H locs := hw.perm ((List.perm_append_comm_assoc _ _ _).append_left _)
  refine r_vi C hw (k6_spreadOfSums hF (a := K 0) (S := S) (u := K 4) (f := (guR S f g (nO S)).1) (g := (guR S f g (nO S)).2) (X := (dmO G K F ++ X))) ml_X11_213 yf_X6_spreadOfSums 19 rfl rfl (As := []) rfl rfl ⟨(Nat.le_of_ble_eq_true rfl), (Nat.le_of_ble_eq_true rfl)⟩ ⟨(Nat.le_of_ble_eq_true rfl), (Nat.le_of_ble_eq_true rfl)⟩ hl.1 (Nat.le_of_ble_eq_true rfl) dX11_isConsistent_28 (fun r_28 _ H locs hp_28 hw => ?_)
  obtain rfl : r_28 = ssR (guR S f g (nO S)).1 (guR S f g (nO S)).2 := hp_28
  replace hw : WH G s (stW G (K 0) S ++ (suW G (K 4) ((guR S f g (nO S)).1) ((guR S f g (nO S)).2) ++ (dmO G K F ++ X))) H locs := hw
  replace hw : WH G s (stW G (K 0) S ++ (dmO G K F ++ (suW G (K 4) ((guR S f g (nO S)).1) ((guR S f g (nO S)).2) ++ X))) H locs := hw.perm ((List.perm_append_comm_assoc _ _ _).append_left _)
  refine lv_icmp_ne (tgt := 74) C.1 C.2.1 dX11_isConsistent_31 (by decide) (fun c_31 => ?_) (fun c_31 => ?_)
  · refine lv_iconst (v := 0) C.1 C.2.1 dX11_isConsistent_74 (by decide) ?_
    exact r_iret C hw rfl rfl () (by simp [c_31, bI]) rfl (Nat.le_of_ble_eq_true rfl) (Nat.le_of_ble_eq_true rfl) dX11_isConsistent_75
  · refine lv_aload_n C.1 C.2.1 dX11_isConsistent_34 rfl (lv_at hl 0 rfl) ?_
    refine r_get C hw 19 rfl rfl in_X11 0 (by decide) fl_X11_10 rfl (v := .ref (K 0 0)) rfl dX11_isConsistent_35 ?_
    refine r_get C hw 0 rfl rfl in_X9 1 (by decide) fl_X11_161 rfl (v := .ref (K 0 6)) rfl dX11_isConsistent_38 ?_
    refine r_vr C hw (k1_poolByTrying hF (a := (K 0)) (S := S) (X := (dmO G K F ++ (suW G (K 4) ((guR S f g (nO S)).1) ((guR S f g (nO S)).2) ++ X))) ok.1 ok.2.1) ml_X11_249 yf_X1_poolByTrying 6 rfl rfl (As := []) rfl rfl ⟨(Nat.le_of_ble_eq_true rfl), (Nat.le_of_ble_eq_true rfl)⟩ ⟨(Nat.le_of_ble_eq_true rfl), (Nat.le_of_ble_eq_true rfl)⟩ hl.1 (Nat.le_of_ble_eq_true rfl) dX11_isConsistent_41 (fun _ q_41 H locs hp_41 hw => ?_)
    replace hw : WH G s (stW G (K 0) S ++ (((q_41, .inr (7, pcE (poolS S (nO S)))) :: (dmO G K F ++ (suW G (K 4) ((guR S f g (nO S)).1) ((guR S f g (nO S)).2) ++ X))))) H locs := hw
    refine r_get C hw 19 rfl rfl in_X5 0 (by decide) fl_X11_289 rfl (v := .int (poolS S (nO S)).1) rfl dX11_isConsistent_44 ?_
    replace hw : WH G s (stW G (K 0) S ++ (dmO G K F ++ (suW G (K 4) ((guR S f g (nO S)).1) ((guR S f g (nO S)).2) ++ X))) H locs := hw.fewer (List.Sublist.append_left (List.sublist_cons_self _ _) _)
    refine lv_aload_n C.1 C.2.1 dX11_isConsistent_47 rfl (lv_at hl 0 rfl) ?_
    refine r_get C hw 19 rfl rfl in_X11 4 (by decide) fl_X11_32 rfl (v := .ref (K 4 0)) rfl dX11_isConsistent_48 ?_
    replace hw : WH G s (stW G (K 0) S ++ (suW G (K 4) ((guR S f g (nO S)).1) ((guR S f g (nO S)).2) ++ (dmO G K F ++ X))) H locs := hw.perm ((List.perm_append_comm_assoc _ _ _).append_left _)
    refine r_vr C hw (k6_poolBySums hF (a := K 0) (S := S) (u := K 4) (f := (guR S f g (nO S)).1) (g := (guR S f g (nO S)).2) (X := dmO G K F ++ X)) ml_X11_257 yf_X6_poolBySums 19 rfl rfl (As := []) rfl rfl ⟨(Nat.le_of_ble_eq_true rfl), (Nat.le_of_ble_eq_true rfl)⟩ ⟨(Nat.le_of_ble_eq_true rfl), (Nat.le_of_ble_eq_true rfl)⟩ hl.1 (Nat.le_of_ble_eq_true rfl) dX11_isConsistent_51 (fun _ q_51 H locs hp_51 hw => ?_)
    replace hw : WH G s (stW G (K 0) S ++ (suW G (K 4) ((guR S f g (nO S)).1) ((guR S f g (nO S)).2) ++ (((q_51, .inr (7, pcE (psR (guR S f g (nO S)).1 (guR S f g (nO S)).2 99))) :: (dmO G K F ++ X))))) H locs := hw
    refine r_get C hw 24 rfl rfl in_X5 0 (by decide) fl_X11_289 rfl (v := .int (psR (guR S f g (nO S)).1 (guR S f g (nO S)).2 99).1) rfl dX11_isConsistent_54 ?_
    replace hw : WH G s (stW G (K 0) S ++ (suW G (K 4) ((guR S f g (nO S)).1) ((guR S f g (nO S)).2) ++ (dmO G K F ++ X))) H locs := hw.fewer (List.Sublist.append_left (List.Sublist.append_left (List.sublist_cons_self _ _) _) _)
    replace hw : WH G s (stW G (K 0) S ++ (dmO G K F ++ (suW G (K 4) ((guR S f g (nO S)).1) ((guR S f g (nO S)).2) ++ X))) H locs := hw.perm ((List.perm_append_comm_assoc _ _ _).append_left _)
    refine lv_icmp_ne (tgt := 74) C.1 C.2.1 dX11_isConsistent_57 (by decide) (fun c_57 => ?_) (fun c_57 => ?_)
    · refine lv_iconst (v := 0) C.1 C.2.1 dX11_isConsistent_74 (by decide) ?_
      exact r_iret C hw rfl rfl () (by simp [c_57, bI]) rfl (Nat.le_of_ble_eq_true rfl) (Nat.le_of_ble_eq_true rfl) dX11_isConsistent_75
    · refine lv_aload_n C.1 C.2.1 dX11_isConsistent_60 rfl (lv_at hl 0 rfl) ?_
      refine r_get C hw 19 rfl rfl in_X11 0 (by decide) fl_X11_10 rfl (v := .ref (K 0 0)) rfl dX11_isConsistent_61 ?_
      refine r_vi C hw (k9_isCovered hF (a := (K 0)) (S := S) (X := (dmO G K F ++ (suW G (K 4) ((guR S f g (nO S)).1) ((guR S f g (nO S)).2) ++ X))) ok) ml_X11_294 yf_X9_isCovered 0 rfl rfl (As := []) rfl rfl ⟨(Nat.le_of_ble_eq_true rfl), (Nat.le_of_ble_eq_true rfl)⟩ ⟨(Nat.le_of_ble_eq_true rfl), (Nat.le_of_ble_eq_true rfl)⟩ hl.1 (Nat.le_of_ble_eq_true rfl) dX11_isConsistent_64 (fun r_64 _ H locs hp_64 hw => ?_)
      obtain rfl : r_64 = bI (covS S) := hp_64
      replace hw : WH G s (stW G (K 0) S ++ (dmO G K F ++ (suW G (K 4) ((guR S f g (nO S)).1) ((guR S f g (nO S)).2) ++ X))) H locs := hw
      refine lv_if_eq (tgt := 74) C.1 C.2.1 dX11_isConsistent_67 (by decide) (fun c_67 => ?_) (fun c_67 => ?_)
      · refine lv_iconst (v := 0) C.1 C.2.1 dX11_isConsistent_74 (by decide) ?_
        exact r_iret C hw rfl rfl () (by rw [bI_eq0.mp c_67]; simp [bI]) rfl (Nat.le_of_ble_eq_true rfl) (Nat.le_of_ble_eq_true rfl) dX11_isConsistent_75
      · refine lv_iconst (v := 1) C.1 C.2.1 dX11_isConsistent_70 (by decide) ?_
        refine lv_goto (tgt := 75) C.1 C.2.1 dX11_isConsistent_71 (by decide) ?_
        exact r_iret C hw rfl rfl () (by rw [bI_ne0.mp c_67, decide_eq_true c_31, decide_eq_true c_57]; rfl) rfl (Nat.le_of_ble_eq_true rfl) (Nat.le_of_ble_eq_true rfl) dX11_isConsistent_75

theorem fp_l2d (x : Int32) : FP.l2d x.toInt64 = FP.i2d x := by
  show UInt64.ofNat (FP.Core.fromInt FP.Core.b64 x.toInt64.toInt) = UInt64.ofNat (FP.Core.fromInt FP.Core.b64 x.toInt)
  rw [Int32.toInt_toInt64]
set_option maxHeartbeats 4000000 in
set_option maxRecDepth 100000 in
theorem x11_meanPrice {l : Launch} {G : Gx} (hF : SF l G) {K : Nat → Nat → Nat} {S : SV} {F : Nat → Int32} {X : va_W} {pm : Int32} (hpm : S.2.2 = pm.toInt64) : XD l G yX11_meanPrice cX11_meanPrice 1 6 1 6 [.ref (K 7 0)] (stW G (K 0) S ++ (dmO G K F ++ X)) (fun x _ => S.1 7 ≠ 0 ∧ x = FP.ddiv (FP.i2d pm) (FP.i2d (S.1 7))) (fun _ : Unit => stW G (K 0) S ++ (dmO G K F ++ X)) (fun k => k = 6 ∧ S.1 7 = 0) (fun _ => stW G (K 0) S ++ (dmO G K F ++ X)) := by
  refine mx_of hF (by decide) (Nat.le_of_ble_eq_true rfl) ?_
  intro p e s m below meth c C hnt ls hl H locs hw
  have hl : lv_has ls 1 [(0, .ref (K 7 0))] := hl
  refine lv_aload_n C.1 C.2.1 dX11_meanPrice_0 rfl (lv_at hl 0 rfl) ?_
  refine r_get C hw 19 rfl rfl in_X11 0 (by decide) fl_X11_10 rfl (v := .ref (K 0 0)) rfl dX11_meanPrice_1 ?_
  refine r_get C hw 0 rfl rfl in_X9 7 (by decide) fl_X11_231 rfl (v := .int (S.1 7)) rfl dX11_meanPrice_4 ?_
  refine lv_if_ne (tgt := 20) C.1 C.2.1 dX11_meanPrice_7 (by decide) (fun c_7 => ?_) (fun c_7 => ?_)
  · refine lv_aload_n C.1 C.2.1 dX11_meanPrice_20 rfl (lv_at hl 0 rfl) ?_
    refine r_get C hw 19 rfl rfl in_X11 0 (by decide) fl_X11_10 rfl (v := .ref (K 0 0)) rfl dX11_meanPrice_21 ?_
    refine r_get C hw 0 rfl rfl in_X9 8 (by decide) fl_X11_234 rfl (v := .long S.2.2) rfl dX11_meanPrice_24 ?_
    refine lv_l2d C.1 C.2.1 dX11_meanPrice_27 ?_
    refine lv_aload_n C.1 C.2.1 dX11_meanPrice_28 rfl (lv_at hl 0 rfl) ?_
    refine r_get C hw 19 rfl rfl in_X11 0 (by decide) fl_X11_10 rfl (v := .ref (K 0 0)) rfl dX11_meanPrice_29 ?_
    refine r_get C hw 0 rfl rfl in_X9 7 (by decide) fl_X11_231 rfl (v := .int (S.1 7)) rfl dX11_meanPrice_32 ?_
    refine lv_i2d C.1 C.2.1 dX11_meanPrice_35 ?_
    refine lv_ddiv C.1 C.2.1 dX11_meanPrice_36 (by rw [hpm, fp_l2d]; exact fp_ddiv _ _ c_7) ?_
    refine vx_ret ?_
    exact r_dret C hw rfl () (⟨c_7, by rw [hpm, fp_l2d]⟩) rfl (Nat.le_of_ble_eq_true rfl) (Nat.le_of_ble_eq_true rfl) dX11_meanPrice_37
  · exact x_thr6 C hw (sr_226 hF) (⟨rfl, c_7⟩) rfl hnt hl.1 dX11_meanPrice_10 dX11_meanPrice_13 dX11_meanPrice_14 dX11_meanPrice_16 dX11_meanPrice_19 (Nat.le_of_ble_eq_true rfl) (Nat.le_of_ble_eq_true rfl) (Nat.le_of_ble_eq_true rfl) (Nat.le_of_ble_eq_true rfl) (Nat.le_of_ble_eq_true rfl) (Nat.le_of_ble_eq_true rfl)

set_option maxHeartbeats 4000000 in
set_option maxRecDepth 100000 in
theorem x11_buyingShare {l : Launch} {G : Gx} (hF : SF l G) {K : Nat → Nat → Nat} {S : SV} {F : Nat → Int32} {X : va_W} (ok : okS S) {z : Nat} (hz : z < 21) (hbs : bCnt S (nO S) = nI z) : XF l G yX11_buyingShare cX11_buyingShare 1 6 1 6 [.ref (K 7 0)] (stW G (K 0) S ++ (dmO G K F ++ X)) (fun x _ => S.1 1 ≠ 0 ∧ x = FP.fdiv (FP.i2f (nI z)) (FP.i2f (nI (nO S)))) (fun _ : Unit => stW G (K 0) S ++ (dmO G K F ++ X)) (fun k => k = 6 ∧ S.1 1 = 0) (fun _ => stW G (K 0) S ++ (dmO G K F ++ X)) := by
  refine mx_of hF (by decide) (Nat.le_of_ble_eq_true rfl) ?_
  intro p e s m below meth c C hnt ls hl H locs hw
  have hl : lv_has ls 1 [(0, .ref (K 7 0))] := hl
  refine lv_aload_n C.1 C.2.1 dX11_buyingShare_0 rfl (lv_at hl 0 rfl) ?_
  refine r_get C hw 19 rfl rfl in_X11 0 (by decide) fl_X11_10 rfl (v := .ref (K 0 0)) rfl dX11_buyingShare_1 ?_
  refine r_get C hw 0 rfl rfl in_X9 1 (by decide) fl_X11_161 rfl (v := .ref (K 0 6)) rfl dX11_buyingShare_4 ?_
  refine r_get C hw 6 rfl rfl in_X1 6 (by decide) fl_X11_165 rfl (v := .int (S.1 1)) rfl dX11_buyingShare_7 ?_
  refine lv_if_ne (tgt := 23) C.1 C.2.1 dX11_buyingShare_10 (by decide) (fun c_10 => ?_) (fun c_10 => ?_)
  · refine lv_aload_n C.1 C.2.1 dX11_buyingShare_23 rfl (lv_at hl 0 rfl) ?_
    refine r_get C hw 19 rfl rfl in_X11 0 (by decide) fl_X11_10 rfl (v := .ref (K 0 0)) rfl dX11_buyingShare_24 ?_
    refine r_get C hw 0 rfl rfl in_X9 1 (by decide) fl_X11_161 rfl (v := .ref (K 0 6)) rfl dX11_buyingShare_27 ?_
    refine r_vi C hw (k1_buyingOrders hF (a := (K 0)) (S := S) (X := (dmO G K F ++ X)) ok.1 ok.2.1) ml_X11_243 yf_X1_buyingOrders 6 rfl rfl (As := []) rfl rfl ⟨(Nat.le_of_ble_eq_true rfl), (Nat.le_of_ble_eq_true rfl)⟩ ⟨(Nat.le_of_ble_eq_true rfl), (Nat.le_of_ble_eq_true rfl)⟩ hl.1 (Nat.le_of_ble_eq_true rfl) dX11_buyingShare_30 (fun r_30 _ H locs hp_30 hw => ?_)
    obtain rfl : r_30 = nI z := hp_30.trans hbs
    replace hw : WH G s (stW G (K 0) S ++ (dmO G K F ++ X)) H locs := hw
    refine lv_i2f C.1 C.2.1 dX11_buyingShare_33 ?_
    refine lv_aload_n C.1 C.2.1 dX11_buyingShare_34 rfl (lv_at hl 0 rfl) ?_
    refine r_get C hw 19 rfl rfl in_X11 0 (by decide) fl_X11_10 rfl (v := .ref (K 0 0)) rfl dX11_buyingShare_35 ?_
    refine r_get C hw 0 rfl rfl in_X9 1 (by decide) fl_X11_161 rfl (v := .ref (K 0 6)) rfl dX11_buyingShare_38 ?_
    refine r_get C hw 6 rfl rfl in_X1 6 (by decide) fl_X11_165 rfl (v := .int (S.1 1)) rfl dX11_buyingShare_41 ?_
    refine r_toe (show _ = nI (nO S) from ok.1) ?_
    refine lv_i2f C.1 C.2.1 dX11_buyingShare_44 ?_
    refine lv_fdiv C.1 C.2.1 dX11_buyingShare_45 ((fp_fdiv z (nO S) hz (by have := ok.2.1; omega) (Nat.pos_of_ne_zero (fun h0 => c_10 (by rw [ok.1, h0]; rfl)))).1) ?_
    refine vx_ret ?_
    exact r_fret C hw rfl () (⟨c_10, rfl⟩) rfl (Nat.le_of_ble_eq_true rfl) (Nat.le_of_ble_eq_true rfl) dX11_buyingShare_46
  · exact x_thr6 C hw (sr_241 hF) (⟨rfl, c_10⟩) rfl hnt hl.1 dX11_buyingShare_13 dX11_buyingShare_16 dX11_buyingShare_17 dX11_buyingShare_19 dX11_buyingShare_22 (Nat.le_of_ble_eq_true rfl) (Nat.le_of_ble_eq_true rfl) (Nat.le_of_ble_eq_true rfl) (Nat.le_of_ble_eq_true rfl) (Nat.le_of_ble_eq_true rfl) (Nat.le_of_ble_eq_true rfl)

