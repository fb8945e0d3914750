/-! DropMarket: what changes the market -/
theorem stF_6 (S : SV) (mo dr : Int32) : stF S mo dr < 6 := by unfold stF; (repeat' split) <;> omega
theorem stF_0 {S : SV} {mo dr : Int32} (h : stF S mo dr = 0) : nT S < 6 := by
  unfold stF at h
  split at h
  · split at h
    · cases h
    · omega
  · cases h
theorem ordF_6 (S : SV) (b : Bool) (x pr q : Int32) (mf hi : Bool) : ordF S b x pr q mf hi < 6 := by unfold ordF; (repeat' split) <;> omega
theorem ordF_0 {S : SV} {b : Bool} {x pr q : Int32} {mf hi : Bool} (h : ordF S b x pr q mf hi = 0) : hi = false := by
  cases hi
  · rfl
  · unfold ordF at h
    split at h
    · cases h
    · split at h
      · cases h
      · rw [if_pos rfl] at h
        cases h
theorem canF_6 (S : SV) (x : Int32) : canF S x < 6 := by unfold canF; split <;> omega
theorem canF_0 {S : SV} {x : Int32} (h : canF S x = 0) : ∃ j, slotF S x (nO S) = some j := by
  unfold canF at h
  split at h
  · cases h
  · exact ⟨_, by assumption⟩
theorem pasF_6 (S : SV) (x : Int32) : pasF S x < 6 := by unfold pasF; split <;> omega
theorem opnF_6 (S : SV) : opnF S < 6 := by unfold opnF; split <;> omega
theorem cloF_6 (S : SV) : cloF S < 6 := by unfold cloF; split <;> omega
theorem isB_of {x : Int32} {b : Bool} (h : x = bI b) : isB x := by
  rw [h]
  cases b
  · exact Or.inl rfl
  · exact Or.inr rfl
set_option maxHeartbeats 4000000 in
set_option maxRecDepth 100000 in
theorem x11_addStall {l : Launch} {G : Gx} (hF : SF l G) {K : Nat → Nat → Nat} {S : SV} {r : Nat → Nat → Nat} {V : Nat → SV} {nw dp : Nat} {F : Nat → Int32} {X : va_W} (ok : okS S) (hn8 : nw < 8) (hd8 : dp ≤ 8) (hb : isB (S.1 2)) (mo dr : Int32) : XI l G yX11_addStall cX11_addStall 3 .int 7 1 6 [.ref (K 7 0), .int mo, .int dr] (stW G (K 0) S ++ (dmO G K F ++ (hiW G (K 3) r V (nI nw) (nI dp) ++ X))) (fun r _ => stF S mo dr = 0 ∧ r = nI (nT S)) (fun _ : Unit => stW G (K 0) (opS S (nT S) mo dr) ++ (dmO G K F ++ (hiW G (K 3) r (va_up V (rgN nw) S) (nI (rgN nw)) (nI (min (dp + 1) 8)) ++ X))) (fun k => k = (stF S mo dr) ∧ (stF S mo dr) ≠ 0) (fun _ => stW G (K 0) S ++ (dmO G K F ++ (hiW G (K 3) r V (nI nw) (nI dp) ++ X))) := by
  refine mx_of hF (by decide) (Nat.le_of_ble_eq_true rfl) ?_
  intro p e s m below meth c C hnt ls hl H locs hw
  have hl : lv_has ls 3 [(0, .ref (K 7 0)), (1, .int mo), (2, .int dr)] := hl
  refine lv_aload_n C.1 C.2.1 dX11_addStall_0 rfl (lv_at hl 0 rfl) ?_
  refine r_get C hw 19 rfl rfl in_X11 0 (by decide) fl_X11_10 rfl (v := .ref (K 0 0)) rfl dX11_addStall_1 ?_
  refine lv_iload_n C.1 C.2.1 dX11_addStall_4 rfl (lv_at hl 1 rfl) ?_
  refine lv_iload_n C.1 C.2.1 dX11_addStall_5 rfl (lv_at hl 2 rfl) ?_
  refine r_ve C hw (k9_stallFault hF (a := (K 0)) (S := S) (X := (dmO G K F ++ (hiW G (K 3) r V (nI nw) (nI dp) ++ X))) ok mo dr) ml_X11_61 yf_X9_stallFault 0 rfl rfl (As := [.int mo, .int dr]) rfl rfl ⟨(Nat.le_of_ble_eq_true rfl), (Nat.le_of_ble_eq_true rfl)⟩ ⟨(Nat.le_of_ble_eq_true rfl), (Nat.le_of_ble_eq_true rfl)⟩ hl.1 (Nat.le_of_ble_eq_true rfl) dX11_addStall_6 (fun o_6 _ H locs hp_6 hw => ?_)
  have hp_6 : o_6 = some (stF S mo dr) := hp_6
  rw [hp_6]
  replace hw : WH G s (stW G (K 0) S ++ (dmO G K F ++ (hiW G (K 3) r V (nI nw) (nI dp) ++ X))) H locs := hw
  refine x_sv C hw (x11_refuse hF (i := (stF S mo dr)) (stF_6 ..) (X := stW G (K 0) S ++ (dmO G K F ++ (hiW G (K 3) r V (nI nw) (nI dp) ++ X)))) ml_X11_65 yf_X11_refuse (As := [.ref (G.2.2.2.1 (stF S mo dr))]) rfl rfl ⟨(Nat.le_of_ble_eq_true rfl), (Nat.le_of_ble_eq_true rfl)⟩ ⟨(Nat.le_of_ble_eq_true rfl), (Nat.le_of_ble_eq_true rfl)⟩ hl.1 (Nat.le_of_ble_eq_true rfl) dX11_addStall_9 hnt (fun k hk => ⟨hk, rfl⟩) (Nat.le_of_ble_eq_true rfl) (Nat.le_of_ble_eq_true rfl) (fun u_9 H locs hp_9 hw => ?_)
  replace hw : WH G s (stW G (K 0) S ++ (dmO G K F ++ (hiW G (K 3) r V (nI nw) (nI dp) ++ X))) H locs := hw
  refine lv_aload_n C.1 C.2.1 dX11_addStall_12 rfl (lv_at hl 0 rfl) ?_
  refine r_get C hw 19 rfl rfl in_X11 3 (by decide) fl_X11_25 rfl (v := .ref (K 3 0)) rfl dX11_addStall_13 ?_
  refine lv_aload_n C.1 C.2.1 dX11_addStall_16 rfl (lv_at hl 0 rfl) ?_
  refine r_get C hw 19 rfl rfl in_X11 0 (by decide) fl_X11_10 rfl (v := .ref (K 0 0)) rfl dX11_addStall_17 ?_
  replace hw : WH G s (stW G (K 0) S ++ (hiW G (K 3) r V (nI nw) (nI dp) ++ (dmO G K F ++ X))) H locs := hw.perm ((List.perm_append_comm_assoc _ _ _).append_left _)
  refine r_vv C hw (k4_push hF (a := K 0) (S := S) (h := K 3) (r := r) (V := V) (nw := nw) (dp := dp) (X := (dmO G K F ++ X)) hn8 hd8 (hb)) ml_X11_69 yf_X4_push 19 rfl rfl (As := [.ref (K 0 0)]) rfl rfl ⟨(Nat.le_of_ble_eq_true rfl), (Nat.le_of_ble_eq_true rfl)⟩ ⟨(Nat.le_of_ble_eq_true rfl), (Nat.le_of_ble_eq_true rfl)⟩ hl.1 (Nat.le_of_ble_eq_true rfl) dX11_addStall_20 (fun _ H locs hp_20 hw => ?_)
  replace hw : WH G s (stW G (K 0) S ++ (hiW G (K 3) r (va_up V (rgN nw) S) (nI (rgN nw)) (nI (min (dp + 1) 8)) ++ (dmO G K F ++ X))) H locs := hw
  replace hw : WH G s (stW G (K 0) S ++ (dmO G K F ++ (hiW G (K 3) r (va_up V (rgN nw) S) (nI (rgN nw)) (nI (min (dp + 1) 8)) ++ X))) H locs := hw.perm ((List.perm_append_comm_assoc _ _ _).append_left _)
  refine lv_aload_n C.1 C.2.1 dX11_addStall_23 rfl (lv_at hl 0 rfl) ?_
  refine r_get C hw 19 rfl rfl in_X11 0 (by decide) fl_X11_10 rfl (v := .ref (K 0 0)) rfl dX11_addStall_24 ?_
  refine r_get C hw 0 rfl rfl in_X9 0 (by decide) fl_X11_73 rfl (v := .ref (K 0 1)) rfl dX11_addStall_27 ?_
  refine lv_iload_n C.1 C.2.1 dX11_addStall_30 rfl (lv_at hl 1 rfl) ?_
  refine lv_iload_n C.1 C.2.1 dX11_addStall_31 rfl (lv_at hl 2 rfl) ?_
  refine r_vi C hw (k8_open hF (a := (K 0)) (S := S) (X := (dmO G K F ++ (hiW G (K 3) r (va_up V (rgN nw) S) (nI (rgN nw)) (nI (min (dp + 1) 8)) ++ X))) ok.2.2.1 (stF_0 hp_9) mo dr) ml_X11_77 yf_X8_open 1 rfl rfl (As := [.int mo, .int dr]) rfl rfl ⟨(Nat.le_of_ble_eq_true rfl), (Nat.le_of_ble_eq_true rfl)⟩ ⟨(Nat.le_of_ble_eq_true rfl), (Nat.le_of_ble_eq_true rfl)⟩ hl.1 (Nat.le_of_ble_eq_true rfl) dX11_addStall_32 (fun r_32 _ H locs hp_32 hw => ?_)
  obtain rfl : r_32 = nI (nT S) := hp_32
  replace hw : WH G s (stW G (K 0) (opS S (nT S) mo dr) ++ (dmO G K F ++ (hiW G (K 3) r (va_up V (rgN nw) S) (nI (rgN nw)) (nI (min (dp + 1) 8)) ++ X))) H locs := hw
  refine vx_ret ?_
  exact r_iret C hw rfl rfl () (⟨hp_9, rfl⟩) rfl (Nat.le_of_ble_eq_true rfl) (Nat.le_of_ble_eq_true rfl) dX11_addStall_35

set_option maxHeartbeats 4000000 in
set_option maxRecDepth 100000 in
theorem x11_placeOrder {l : Launch} {G : Gx} (hF : SF l G) {K : Nat → Nat → Nat} {S : SV} {r : Nat → Nat → Nat} {V : Nat → SV} {nw dp : Nat} {F : Nat → Int32} {X : va_W} (ok : okS S) (hn8 : nw < 8) (hd8 : dp ≤ 8) (hb : isB (S.1 2)) (b : Bool) (x pr q mi : Int32) (mf : Bool) : XI l G yX11_placeOrder cX11_placeOrder 7 .int 7 1 6 [.ref (K 7 0), .int (bI b), .int x, .int pr, .int q, .int mi, .int (bI mf)] (stW G (K 0) S ++ (dmO G K F ++ (hiW G (K 3) r V (nI nw) (nI dp) ++ X))) (fun r _ => ordF S b x pr q mf (decide (20 ≤ nO S)) = 0 ∧ r = S.1 4) (fun _ : Unit => stW G (K 0) (plS S b x pr q mi) ++ (dmO G K F ++ (hiW G (K 3) r (va_up V (rgN nw) S) (nI (rgN nw)) (nI (min (dp + 1) 8)) ++ X))) (fun k => k = (ordF S b x pr q mf (decide (20 ≤ nO S))) ∧ (ordF S b x pr q mf (decide (20 ≤ nO S))) ≠ 0) (fun _ => stW G (K 0) S ++ (dmO G K F ++ (hiW G (K 3) r V (nI nw) (nI dp) ++ X))) := by
  refine mx_of hF (by decide) (Nat.le_of_ble_eq_true rfl) ?_
  intro p e s m below meth c C hnt ls hl H locs hw
  have hl : lv_has ls 7 [(0, .ref (K 7 0)), (1, .int (bI b)), (2, .int x), (3, .int pr), (4, .int q), (5, .int mi), (6, .int (bI mf))] := hl
  refine lv_aload_n C.1 C.2.1 dX11_placeOrder_0 rfl (lv_at hl 0 rfl) ?_
  refine r_get C hw 19 rfl rfl in_X11 0 (by decide) fl_X11_10 rfl (v := .ref (K 0 0)) rfl dX11_placeOrder_1 ?_
  refine lv_iload_n C.1 C.2.1 dX11_placeOrder_4 rfl (lv_at hl 1 rfl) ?_
  refine lv_iload_n C.1 C.2.1 dX11_placeOrder_5 rfl (lv_at hl 2 rfl) ?_
  refine lv_iload_n C.1 C.2.1 dX11_placeOrder_6 rfl (lv_at hl 3 rfl) ?_
  refine lv_iload C.1 C.2.1 dX11_placeOrder_7 (lv_at hl 4 rfl) ?_
  refine lv_iload C.1 C.2.1 dX11_placeOrder_9 (lv_at hl 6 rfl) ?_
  refine lv_aload_n C.1 C.2.1 dX11_placeOrder_11 rfl (lv_at hl 0 rfl) ?_
  refine r_get C hw 19 rfl rfl in_X11 0 (by decide) fl_X11_10 rfl (v := .ref (K 0 0)) rfl dX11_placeOrder_12 ?_
  refine r_get C hw 0 rfl rfl in_X9 1 (by decide) fl_X11_161 rfl (v := .ref (K 0 6)) rfl dX11_placeOrder_15 ?_
  refine r_vi C hw (k1_isFull hF (a := (K 0)) (S := S) (X := (dmO G K F ++ (hiW G (K 3) r V (nI nw) (nI dp) ++ X))) ok.1 ok.2.1) ml_X11_362 yf_X1_isFull 6 rfl rfl (As := []) rfl rfl ⟨(Nat.le_of_ble_eq_true rfl), (Nat.le_of_ble_eq_true rfl)⟩ ⟨(Nat.le_of_ble_eq_true rfl), (Nat.le_of_ble_eq_true rfl)⟩ hl.1 (Nat.le_of_ble_eq_true rfl) dX11_placeOrder_18 (fun r_18 _ H locs hp_18 hw => ?_)
  obtain rfl : r_18 = bI (decide (20 ≤ nO S)) := hp_18
  replace hw : WH G s (stW G (K 0) S ++ (dmO G K F ++ (hiW G (K 3) r V (nI nw) (nI dp) ++ X))) H locs := hw
  refine r_ve C hw (k9_orderFault hF (a := (K 0)) (S := S) (X := (dmO G K F ++ (hiW G (K 3) r V (nI nw) (nI dp) ++ X))) ok b x pr q mf (decide (20 ≤ nO S))) ml_X11_363 yf_X9_orderFault 0 rfl rfl (As := [.int (bI b), .int x, .int pr, .int q, .int (bI mf), .int (bI (decide (20 ≤ nO S)))]) rfl rfl ⟨(Nat.le_of_ble_eq_true rfl), (Nat.le_of_ble_eq_true rfl)⟩ ⟨(Nat.le_of_ble_eq_true rfl), (Nat.le_of_ble_eq_true rfl)⟩ hl.1 (Nat.le_of_ble_eq_true rfl) dX11_placeOrder_21 (fun o_21 _ H locs hp_21 hw => ?_)
  have hp_21 : o_21 = some (ordF S b x pr q mf (decide (20 ≤ nO S))) := hp_21
  rw [hp_21]
  replace hw : WH G s (stW G (K 0) S ++ (dmO G K F ++ (hiW G (K 3) r V (nI nw) (nI dp) ++ X))) H locs := hw
  refine x_sv C hw (x11_refuse hF (i := (ordF S b x pr q mf (decide (20 ≤ nO S)))) (ordF_6 ..) (X := stW G (K 0) S ++ (dmO G K F ++ (hiW G (K 3) r V (nI nw) (nI dp) ++ X)))) ml_X11_65 yf_X11_refuse (As := [.ref (G.2.2.2.1 (ordF S b x pr q mf (decide (20 ≤ nO S))))]) rfl rfl ⟨(Nat.le_of_ble_eq_true rfl), (Nat.le_of_ble_eq_true rfl)⟩ ⟨(Nat.le_of_ble_eq_true rfl), (Nat.le_of_ble_eq_true rfl)⟩ hl.1 (Nat.le_of_ble_eq_true rfl) dX11_placeOrder_24 hnt (fun k hk => ⟨hk, rfl⟩) (Nat.le_of_ble_eq_true rfl) (Nat.le_of_ble_eq_true rfl) (fun u_24 H locs hp_24 hw => ?_)
  replace hw : WH G s (stW G (K 0) S ++ (dmO G K F ++ (hiW G (K 3) r V (nI nw) (nI dp) ++ X))) H locs := hw
  refine lv_aload_n C.1 C.2.1 dX11_placeOrder_27 rfl (lv_at hl 0 rfl) ?_
  refine r_get C hw 19 rfl rfl in_X11 3 (by decide) fl_X11_25 rfl (v := .ref (K 3 0)) rfl dX11_placeOrder_28 ?_
  refine lv_aload_n C.1 C.2.1 dX11_placeOrder_31 rfl (lv_at hl 0 rfl) ?_
  refine r_get C hw 19 rfl rfl in_X11 0 (by decide) fl_X11_10 rfl (v := .ref (K 0 0)) rfl dX11_placeOrder_32 ?_
  replace hw : WH G s (stW G (K 0) S ++ (hiW G (K 3) r V (nI nw) (nI dp) ++ (dmO G K F ++ X))) H locs := hw.perm ((List.perm_append_comm_assoc _ _ _).append_left _)
  refine r_vv C hw (k4_push hF (a := K 0) (S := S) (h := K 3) (r := r) (V := V) (nw := nw) (dp := dp) (X := (dmO G K F ++ X)) hn8 hd8 (hb)) ml_X11_69 yf_X4_push 19 rfl rfl (As := [.ref (K 0 0)]) rfl rfl ⟨(Nat.le_of_ble_eq_true rfl), (Nat.le_of_ble_eq_true rfl)⟩ ⟨(Nat.le_of_ble_eq_true rfl), (Nat.le_of_ble_eq_true rfl)⟩ hl.1 (Nat.le_of_ble_eq_true rfl) dX11_placeOrder_35 (fun _ H locs hp_35 hw => ?_)
  replace hw : WH G s (stW G (K 0) S ++ (hiW G (K 3) r (va_up V (rgN nw) S) (nI (rgN nw)) (nI (min (dp + 1) 8)) ++ (dmO G K F ++ X))) H locs := hw
  replace hw : WH G s (stW G (K 0) S ++ (dmO G K F ++ (hiW G (K 3) r (va_up V (rgN nw) S) (nI (rgN nw)) (nI (min (dp + 1) 8)) ++ X))) H locs := hw.perm ((List.perm_append_comm_assoc _ _ _).append_left _)
  refine lv_aload_n C.1 C.2.1 dX11_placeOrder_38 rfl (lv_at hl 0 rfl) ?_
  refine r_get C hw 19 rfl rfl in_X11 0 (by decide) fl_X11_10 rfl (v := .ref (K 0 0)) rfl dX11_placeOrder_39 ?_
  refine lv_iload_n C.1 C.2.1 dX11_placeOrder_42 rfl (lv_at hl 1 rfl) ?_
  refine lv_iload_n C.1 C.2.1 dX11_placeOrder_43 rfl (lv_at hl 2 rfl) ?_
  refine lv_iload_n C.1 C.2.1 dX11_placeOrder_44 rfl (lv_at hl 3 rfl) ?_
  refine lv_iload C.1 C.2.1 dX11_placeOrder_45 (lv_at hl 4 rfl) ?_
  refine lv_iload C.1 C.2.1 dX11_placeOrder_47 (lv_at hl 5 rfl) ?_
  refine r_vi C hw (k9_place hF (a := (K 0)) (S := S) (X := (dmO G K F ++ (hiW G (K 3) r (va_up V (rgN nw) S) (nI (rgN nw)) (nI (min (dp + 1) 8)) ++ X))) ok (by have h9 := of_decide_eq_false (ordF_0 hp_24); omega) b x pr q mi) ml_X11_367 yf_X9_place 0 rfl rfl (As := [.int (bI b), .int x, .int pr, .int q, .int mi]) rfl rfl ⟨(Nat.le_of_ble_eq_true rfl), (Nat.le_of_ble_eq_true rfl)⟩ ⟨(Nat.le_of_ble_eq_true rfl), (Nat.le_of_ble_eq_true rfl)⟩ hl.1 (Nat.le_of_ble_eq_true rfl) dX11_placeOrder_49 (fun r_49 _ H locs hp_49 hw => ?_)
  obtain rfl : r_49 = S.1 4 := hp_49
  replace hw : WH G s (stW G (K 0) (plS S b x pr q mi) ++ (dmO G K F ++ (hiW G (K 3) r (va_up V (rgN nw) S) (nI (rgN nw)) (nI (min (dp + 1) 8)) ++ X))) H locs := hw
  refine vx_ret ?_
  exact r_iret C hw rfl rfl () (⟨hp_24, rfl⟩) rfl (Nat.le_of_ble_eq_true rfl) (Nat.le_of_ble_eq_true rfl) dX11_placeOrder_52

set_option maxHeartbeats 4000000 in
set_option maxRecDepth 100000 in
theorem x11_takeAtOnce {l : Launch} {G : Gx} (hF : SF l G) {K : Nat → Nat → Nat} {S : SV} {r : Nat → Nat → Nat} {V : Nat → SV} {nw dp : Nat} {F : Nat → Int32} {X : va_W} (ok : okS S) (hn8 : nw < 8) (hd8 : dp ≤ 8) {pb : Bool} (hb : S.1 2 = bI pb) (b : Bool) (x pr q : Int32) : XI l G yX11_takeAtOnce cX11_takeAtOnce 5 .int 7 1 6 [.ref (K 7 0), .int (bI b), .int x, .int pr, .int q] (stW G (K 0) S ++ (dmO G K F ++ (hiW G (K 3) r V (nI nw) (nI dp) ++ X))) (fun r _ => ordF S b x pr q true pb = 0 ∧ r = q - (tkS S b x pr q).2) (fun _ : Unit => stW G (K 0) ((tkS S b x pr q).1) ++ (dmO G K F ++ (hiW G (K 3) r (va_up V (rgN nw) S) (nI (rgN nw)) (nI (min (dp + 1) 8)) ++ X))) (fun k => k = (ordF S b x pr q true pb) ∧ (ordF S b x pr q true pb) ≠ 0) (fun _ => stW G (K 0) S ++ (dmO G K F ++ (hiW G (K 3) r V (nI nw) (nI dp) ++ X))) := by
  refine mx_of hF (by decide) (Nat.le_of_ble_eq_true rfl) ?_
  intro p e s m below meth c C hnt ls hl H locs hw
  have hl : lv_has ls 5 [(0, .ref (K 7 0)), (1, .int (bI b)), (2, .int x), (3, .int pr), (4, .int q)] := hl
  refine lv_aload_n C.1 C.2.1 dX11_takeAtOnce_0 rfl (lv_at hl 0 rfl) ?_
  refine r_get C hw 19 rfl rfl in_X11 0 (by decide) fl_X11_10 rfl (v := .ref (K 0 0)) rfl dX11_takeAtOnce_1 ?_
  refine lv_iload_n C.1 C.2.1 dX11_takeAtOnce_4 rfl (lv_at hl 1 rfl) ?_
  refine lv_iload_n C.1 C.2.1 dX11_takeAtOnce_5 rfl (lv_at hl 2 rfl) ?_
  refine lv_iload_n C.1 C.2.1 dX11_takeAtOnce_6 rfl (lv_at hl 3 rfl) ?_
  refine lv_iload C.1 C.2.1 dX11_takeAtOnce_7 (lv_at hl 4 rfl) ?_
  refine lv_iconst (v := 1) C.1 C.2.1 dX11_takeAtOnce_9 (by decide) ?_
  refine lv_aload_n C.1 C.2.1 dX11_takeAtOnce_10 rfl (lv_at hl 0 rfl) ?_
  refine r_get C hw 19 rfl rfl in_X11 0 (by decide) fl_X11_10 rfl (v := .ref (K 0 0)) rfl dX11_takeAtOnce_11 ?_
  refine r_get C hw 0 rfl rfl in_X9 2 (by decide) fl_X11_246 rfl (v := .int (S.1 2)) rfl dX11_takeAtOnce_14 ?_
  refine r_toe (show _ = bI pb from hb) ?_
  refine r_ve C hw (k9_orderFault hF (a := (K 0)) (S := S) (X := (dmO G K F ++ (hiW G (K 3) r V (nI nw) (nI dp) ++ X))) ok b x pr q true pb) ml_X11_363 yf_X9_orderFault 0 rfl rfl (As := [.int (bI b), .int x, .int pr, .int q, .int 1, .int (bI pb)]) rfl rfl ⟨(Nat.le_of_ble_eq_true rfl), (Nat.le_of_ble_eq_true rfl)⟩ ⟨(Nat.le_of_ble_eq_true rfl), (Nat.le_of_ble_eq_true rfl)⟩ hl.1 (Nat.le_of_ble_eq_true rfl) dX11_takeAtOnce_17 (fun o_17 _ H locs hp_17 hw => ?_)
  have hp_17 : o_17 = some (ordF S b x pr q true pb) := hp_17
  rw [hp_17]
  replace hw : WH G s (stW G (K 0) S ++ (dmO G K F ++ (hiW G (K 3) r V (nI nw) (nI dp) ++ X))) H locs := hw
  refine x_sv C hw (x11_refuse hF (i := (ordF S b x pr q true pb)) (ordF_6 ..) (X := stW G (K 0) S ++ (dmO G K F ++ (hiW G (K 3) r V (nI nw) (nI dp) ++ X)))) ml_X11_65 yf_X11_refuse (As := [.ref (G.2.2.2.1 (ordF S b x pr q true pb))]) rfl rfl ⟨(Nat.le_of_ble_eq_true rfl), (Nat.le_of_ble_eq_true rfl)⟩ ⟨(Nat.le_of_ble_eq_true rfl), (Nat.le_of_ble_eq_true rfl)⟩ hl.1 (Nat.le_of_ble_eq_true rfl) dX11_takeAtOnce_20 hnt (fun k hk => ⟨hk, rfl⟩) (Nat.le_of_ble_eq_true rfl) (Nat.le_of_ble_eq_true rfl) (fun u_20 H locs hp_20 hw => ?_)
  replace hw : WH G s (stW G (K 0) S ++ (dmO G K F ++ (hiW G (K 3) r V (nI nw) (nI dp) ++ X))) H locs := hw
  refine lv_aload_n C.1 C.2.1 dX11_takeAtOnce_23 rfl (lv_at hl 0 rfl) ?_
  refine r_get C hw 19 rfl rfl in_X11 3 (by decide) fl_X11_25 rfl (v := .ref (K 3 0)) rfl dX11_takeAtOnce_24 ?_
  refine lv_aload_n C.1 C.2.1 dX11_takeAtOnce_27 rfl (lv_at hl 0 rfl) ?_
  refine r_get C hw 19 rfl rfl in_X11 0 (by decide) fl_X11_10 rfl (v := .ref (K 0 0)) rfl dX11_takeAtOnce_28 ?_
  replace hw : WH G s (stW G (K 0) S ++ (hiW G (K 3) r V (nI nw) (nI dp) ++ (dmO G K F ++ X))) H locs := hw.perm ((List.perm_append_comm_assoc _ _ _).append_left _)
  refine r_vv C hw (k4_push hF (a := K 0) (S := S) (h := K 3) (r := r) (V := V) (nw := nw) (dp := dp) (X := (dmO G K F ++ X)) hn8 hd8 (isB_of hb)) ml_X11_69 yf_X4_push 19 rfl rfl (As := [.ref (K 0 0)]) rfl rfl ⟨(Nat.le_of_ble_eq_true rfl), (Nat.le_of_ble_eq_true rfl)⟩ ⟨(Nat.le_of_ble_eq_true rfl), (Nat.le_of_ble_eq_true rfl)⟩ hl.1 (Nat.le_of_ble_eq_true rfl) dX11_takeAtOnce_31 (fun _ H locs hp_31 hw => ?_)
  replace hw : WH G s (stW G (K 0) S ++ (hiW G (K 3) r (va_up V (rgN nw) S) (nI (rgN nw)) (nI (min (dp + 1) 8)) ++ (dmO G K F ++ X))) H locs := hw
  replace hw : WH G s (stW G (K 0) S ++ (dmO G K F ++ (hiW G (K 3) r (va_up V (rgN nw) S) (nI (rgN nw)) (nI (min (dp + 1) 8)) ++ X))) H locs := hw.perm ((List.perm_append_comm_assoc _ _ _).append_left _)
  refine lv_aload_n C.1 C.2.1 dX11_takeAtOnce_34 rfl (lv_at hl 0 rfl) ?_
  refine r_get C hw 19 rfl rfl in_X11 0 (by decide) fl_X11_10 rfl (v := .ref (K 0 0)) rfl dX11_takeAtOnce_35 ?_
  refine lv_iload_n C.1 C.2.1 dX11_takeAtOnce_38 rfl (lv_at hl 1 rfl) ?_
  refine lv_iload_n C.1 C.2.1 dX11_takeAtOnce_39 rfl (lv_at hl 2 rfl) ?_
  refine lv_iload_n C.1 C.2.1 dX11_takeAtOnce_40 rfl (lv_at hl 3 rfl) ?_
  refine lv_iload C.1 C.2.1 dX11_takeAtOnce_41 (lv_at hl 4 rfl) ?_
  refine r_vi C hw (k9_take hF (a := (K 0)) (S := S) (X := (dmO G K F ++ (hiW G (K 3) r (va_up V (rgN nw) S) (nI (rgN nw)) (nI (min (dp + 1) 8)) ++ X))) ok b x pr q) ml_X11_371 yf_X9_take 0 rfl rfl (As := [.int (bI b), .int x, .int pr, .int q]) rfl rfl ⟨(Nat.le_of_ble_eq_true rfl), (Nat.le_of_ble_eq_true rfl)⟩ ⟨(Nat.le_of_ble_eq_true rfl), (Nat.le_of_ble_eq_true rfl)⟩ hl.1 (Nat.le_of_ble_eq_true rfl) dX11_takeAtOnce_43 (fun r_43 _ H locs hp_43 hw => ?_)
  obtain rfl : r_43 = q - (tkS S b x pr q).2 := hp_43
  replace hw : WH G s (stW G (K 0) ((tkS S b x pr q).1) ++ (dmO G K F ++ (hiW G (K 3) r (va_up V (rgN nw) S) (nI (rgN nw)) (nI (min (dp + 1) 8)) ++ X))) H locs := hw
  refine vx_ret ?_
  exact r_iret C hw rfl rfl () (⟨hp_20, rfl⟩) rfl (Nat.le_of_ble_eq_true rfl) (Nat.le_of_ble_eq_true rfl) dX11_takeAtOnce_46

set_option maxHeartbeats 4000000 in
set_option maxRecDepth 100000 in
theorem x11_cancel {l : Launch} {G : Gx} (hF : SF l G) {K : Nat → Nat → Nat} {S : SV} {r : Nat → Nat → Nat} {V : Nat → SV} {nw dp : Nat} {F : Nat → Int32} {X : va_W} (ok : okS S) (hn8 : nw < 8) (hd8 : dp ≤ 8) (hb : isB (S.1 2)) (x : Int32) : XI l G yX11_cancel cX11_cancel 2 .int 7 1 6 [.ref (K 7 0), .int x] (stW G (K 0) S ++ (dmO G K F ++ (hiW G (K 3) r V (nI nw) (nI dp) ++ X))) (fun r j => slotF S x (nO S) = some j ∧ r = S.2.1 6 j) (fun j : Nat => stW G (K 0) (rmS S (nO S) j) ++ (dmO G K F ++ (hiW G (K 3) r (va_up V (rgN nw) S) (nI (rgN nw)) (nI (min (dp + 1) 8)) ++ X))) (fun k => k = (canF S x) ∧ (canF S x) ≠ 0) (fun _ => stW G (K 0) S ++ (dmO G K F ++ (hiW G (K 3) r V (nI nw) (nI dp) ++ X))) := by
  refine mx_of hF (by decide) (Nat.le_of_ble_eq_true rfl) ?_
  intro p e s m below meth c C hnt ls hl H locs hw
  have hl : lv_has ls 2 [(0, .ref (K 7 0)), (1, .int x)] := hl
  refine lv_aload_n C.1 C.2.1 dX11_cancel_0 rfl (lv_at hl 0 rfl) ?_
  refine r_get C hw 19 rfl rfl in_X11 0 (by decide) fl_X11_10 rfl (v := .ref (K 0 0)) rfl dX11_cancel_1 ?_
  refine lv_iload_n C.1 C.2.1 dX11_cancel_4 rfl (lv_at hl 1 rfl) ?_
  refine r_ve C hw (k9_cancelFault hF (a := (K 0)) (S := S) (X := (dmO G K F ++ (hiW G (K 3) r V (nI nw) (nI dp) ++ X))) ok x) ml_X11_95 yf_X9_cancelFault 0 rfl rfl (As := [.int x]) rfl rfl ⟨(Nat.le_of_ble_eq_true rfl), (Nat.le_of_ble_eq_true rfl)⟩ ⟨(Nat.le_of_ble_eq_true rfl), (Nat.le_of_ble_eq_true rfl)⟩ hl.1 (Nat.le_of_ble_eq_true rfl) dX11_cancel_5 (fun o_5 _ H locs hp_5 hw => ?_)
  have hp_5 : o_5 = some (canF S x) := hp_5
  rw [hp_5]
  replace hw : WH G s (stW G (K 0) S ++ (dmO G K F ++ (hiW G (K 3) r V (nI nw) (nI dp) ++ X))) H locs := hw
  refine x_sv C hw (x11_refuse hF (i := canF S x) (canF_6 ..) (X := stW G (K 0) S ++ (dmO G K F ++ (hiW G (K 3) r V (nI nw) (nI dp) ++ X)))) ml_X11_65 yf_X11_refuse (As := [.ref (G.2.2.2.1 (canF S x))]) rfl rfl ⟨(Nat.le_of_ble_eq_true rfl), (Nat.le_of_ble_eq_true rfl)⟩ ⟨(Nat.le_of_ble_eq_true rfl), (Nat.le_of_ble_eq_true rfl)⟩ hl.1 (Nat.le_of_ble_eq_true rfl) dX11_cancel_8 hnt (fun k hk => ⟨hk, rfl⟩) (Nat.le_of_ble_eq_true rfl) (Nat.le_of_ble_eq_true rfl) (fun u_8 H locs hp_8 hw => ?_)
  obtain ⟨j, hj⟩ := canF_0 hp_8
  replace hw : WH G s (stW G (K 0) S ++ (dmO G K F ++ (hiW G (K 3) r V (nI nw) (nI dp) ++ X))) H locs := hw
  refine lv_aload_n C.1 C.2.1 dX11_cancel_11 rfl (lv_at hl 0 rfl) ?_
  refine r_get C hw 19 rfl rfl in_X11 3 (by decide) fl_X11_25 rfl (v := .ref (K 3 0)) rfl dX11_cancel_12 ?_
  refine lv_aload_n C.1 C.2.1 dX11_cancel_15 rfl (lv_at hl 0 rfl) ?_
  refine r_get C hw 19 rfl rfl in_X11 0 (by decide) fl_X11_10 rfl (v := .ref (K 0 0)) rfl dX11_cancel_16 ?_
  replace hw : WH G s (stW G (K 0) S ++ (hiW G (K 3) r V (nI nw) (nI dp) ++ (dmO G K F ++ X))) H locs := hw.perm ((List.perm_append_comm_assoc _ _ _).append_left _)
  refine r_vv C hw (k4_push hF (a := K 0) (S := S) (h := K 3) (r := r) (V := V) (nw := nw) (dp := dp) (X := (dmO G K F ++ X)) hn8 hd8 (hb)) ml_X11_69 yf_X4_push 19 rfl rfl (As := [.ref (K 0 0)]) rfl rfl ⟨(Nat.le_of_ble_eq_true rfl), (Nat.le_of_ble_eq_true rfl)⟩ ⟨(Nat.le_of_ble_eq_true rfl), (Nat.le_of_ble_eq_true rfl)⟩ hl.1 (Nat.le_of_ble_eq_true rfl) dX11_cancel_19 (fun _ H locs hp_19 hw => ?_)
  replace hw : WH G s (stW G (K 0) S ++ (hiW G (K 3) r (va_up V (rgN nw) S) (nI (rgN nw)) (nI (min (dp + 1) 8)) ++ (dmO G K F ++ X))) H locs := hw
  replace hw : WH G s (stW G (K 0) S ++ (dmO G K F ++ (hiW G (K 3) r (va_up V (rgN nw) S) (nI (rgN nw)) (nI (min (dp + 1) 8)) ++ X))) H locs := hw.perm ((List.perm_append_comm_assoc _ _ _).append_left _)
  refine lv_aload_n C.1 C.2.1 dX11_cancel_22 rfl (lv_at hl 0 rfl) ?_
  refine r_get C hw 19 rfl rfl in_X11 0 (by decide) fl_X11_10 rfl (v := .ref (K 0 0)) rfl dX11_cancel_23 ?_
  refine lv_iload_n C.1 C.2.1 dX11_cancel_26 rfl (lv_at hl 1 rfl) ?_
  refine r_vi C hw (k9_withdraw hF (a := (K 0)) (S := S) (X := (dmO G K F ++ (hiW G (K 3) r (va_up V (rgN nw) S) (nI (rgN nw)) (nI (min (dp + 1) 8)) ++ X))) ok hj) ml_X11_99 yf_X9_withdraw 0 rfl rfl (As := [.int x]) rfl rfl ⟨(Nat.le_of_ble_eq_true rfl), (Nat.le_of_ble_eq_true rfl)⟩ ⟨(Nat.le_of_ble_eq_true rfl), (Nat.le_of_ble_eq_true rfl)⟩ hl.1 (Nat.le_of_ble_eq_true rfl) dX11_cancel_27 (fun r_27 _ H locs hp_27 hw => ?_)
  obtain rfl : r_27 = S.2.1 6 j := hp_27
  replace hw : WH G s (stW G (K 0) (rmS S (nO S) j) ++ (dmO G K F ++ (hiW G (K 3) r (va_up V (rgN nw) S) (nI (rgN nw)) (nI (min (dp + 1) 8)) ++ X))) H locs := hw
  refine vx_ret ?_
  exact r_iret C hw rfl rfl j (⟨hj, rfl⟩) rfl (Nat.le_of_ble_eq_true rfl) (Nat.le_of_ble_eq_true rfl) dX11_cancel_30

set_option maxHeartbeats 4000000 in
set_option maxRecDepth 100000 in
theorem x11_pass {l : Launch} {G : Gx} (hF : SF l G) {K : Nat → Nat → Nat} {S : SV} {r : Nat → Nat → Nat} {V : Nat → SV} {nw dp : Nat} {F : Nat → Int32} {X : va_W} (ok : okS S) (hn8 : nw < 8) (hd8 : dp ≤ 8) (hb : isB (S.1 2)) (x : Int32) : XI l G yX11_pass cX11_pass 2 .int 7 1 6 [.ref (K 7 0), .int x] (stW G (K 0) S ++ (dmO G K F ++ (hiW G (K 3) r V (nI nw) (nI dp) ++ X))) (fun r _ => pasF S x = 0 ∧ r = (lpS S x).2) (fun _ : Unit => stW G (K 0) ((lpS S x).1) ++ (dmO G K F ++ (hiW G (K 3) r (va_up V (rgN nw) S) (nI (rgN nw)) (nI (min (dp + 1) 8)) ++ X))) (fun k => k = (pasF S x) ∧ (pasF S x) ≠ 0) (fun _ => stW G (K 0) S ++ (dmO G K F ++ (hiW G (K 3) r V (nI nw) (nI dp) ++ X))) := by
  refine mx_of hF (by decide) (Nat.le_of_ble_eq_true rfl) ?_
  intro p e s m below meth c C hnt ls hl H locs hw
  have hl : lv_has ls 2 [(0, .ref (K 7 0)), (1, .int x)] := hl
  refine lv_aload_n C.1 C.2.1 dX11_pass_0 rfl (lv_at hl 0 rfl) ?_
  refine r_get C hw 19 rfl rfl in_X11 0 (by decide) fl_X11_10 rfl (v := .ref (K 0 0)) rfl dX11_pass_1 ?_
  refine lv_iload_n C.1 C.2.1 dX11_pass_4 rfl (lv_at hl 1 rfl) ?_
  refine r_ve C hw (k9_passFault hF (a := (K 0)) (S := S) (X := (dmO G K F ++ (hiW G (K 3) r V (nI nw) (nI dp) ++ X))) ok x) ml_X11_103 yf_X9_passFault 0 rfl rfl (As := [.int x]) rfl rfl ⟨(Nat.le_of_ble_eq_true rfl), (Nat.le_of_ble_eq_true rfl)⟩ ⟨(Nat.le_of_ble_eq_true rfl), (Nat.le_of_ble_eq_true rfl)⟩ hl.1 (Nat.le_of_ble_eq_true rfl) dX11_pass_5 (fun o_5 _ H locs hp_5 hw => ?_)
  have hp_5 : o_5 = some (pasF S x) := hp_5
  rw [hp_5]
  replace hw : WH G s (stW G (K 0) S ++ (dmO G K F ++ (hiW G (K 3) r V (nI nw) (nI dp) ++ X))) H locs := hw
  refine x_sv C hw (x11_refuse hF (i := (pasF S x)) (pasF_6 ..) (X := stW G (K 0) S ++ (dmO G K F ++ (hiW G (K 3) r V (nI nw) (nI dp) ++ X)))) ml_X11_65 yf_X11_refuse (As := [.ref (G.2.2.2.1 (pasF S x))]) rfl rfl ⟨(Nat.le_of_ble_eq_true rfl), (Nat.le_of_ble_eq_true rfl)⟩ ⟨(Nat.le_of_ble_eq_true rfl), (Nat.le_of_ble_eq_true rfl)⟩ hl.1 (Nat.le_of_ble_eq_true rfl) dX11_pass_8 hnt (fun k hk => ⟨hk, rfl⟩) (Nat.le_of_ble_eq_true rfl) (Nat.le_of_ble_eq_true rfl) (fun u_8 H locs hp_8 hw => ?_)
  replace hw : WH G s (stW G (K 0) S ++ (dmO G K F ++ (hiW G (K 3) r V (nI nw) (nI dp) ++ X))) H locs := hw
  refine lv_aload_n C.1 C.2.1 dX11_pass_11 rfl (lv_at hl 0 rfl) ?_
  refine r_get C hw 19 rfl rfl in_X11 3 (by decide) fl_X11_25 rfl (v := .ref (K 3 0)) rfl dX11_pass_12 ?_
  refine lv_aload_n C.1 C.2.1 dX11_pass_15 rfl (lv_at hl 0 rfl) ?_
  refine r_get C hw 19 rfl rfl in_X11 0 (by decide) fl_X11_10 rfl (v := .ref (K 0 0)) rfl dX11_pass_16 ?_
  replace hw : WH G s (stW G (K 0) S ++ (hiW G (K 3) r V (nI nw) (nI dp) ++ (dmO G K F ++ X))) H locs := hw.perm ((List.perm_append_comm_assoc _ _ _).append_left _)
  refine r_vv C hw (k4_push hF (a := K 0) (S := S) (h := K 3) (r := r) (V := V) (nw := nw) (dp := dp) (X := (dmO G K F ++ X)) hn8 hd8 (hb)) ml_X11_69 yf_X4_push 19 rfl rfl (As := [.ref (K 0 0)]) rfl rfl ⟨(Nat.le_of_ble_eq_true rfl), (Nat.le_of_ble_eq_true rfl)⟩ ⟨(Nat.le_of_ble_eq_true rfl), (Nat.le_of_ble_eq_true rfl)⟩ hl.1 (Nat.le_of_ble_eq_true rfl) dX11_pass_19 (fun _ H locs hp_19 hw => ?_)
  replace hw : WH G s (stW G (K 0) S ++ (hiW G (K 3) r (va_up V (rgN nw) S) (nI (rgN nw)) (nI (min (dp + 1) 8)) ++ (dmO G K F ++ X))) H locs := hw
  replace hw : WH G s (stW G (K 0) S ++ (dmO G K F ++ (hiW G (K 3) r (va_up V (rgN nw) S) (nI (rgN nw)) (nI (min (dp + 1) 8)) ++ X))) H locs := hw.perm ((List.perm_append_comm_assoc _ _ _).append_left _)
  refine lv_aload_n C.1 C.2.1 dX11_pass_22 rfl (lv_at hl 0 rfl) ?_
  refine r_get C hw 19 rfl rfl in_X11 0 (by decide) fl_X11_10 rfl (v := .ref (K 0 0)) rfl dX11_pass_23 ?_
  refine lv_iload_n C.1 C.2.1 dX11_pass_26 rfl (lv_at hl 1 rfl) ?_
  refine r_vi C hw (k9_letPass hF (a := (K 0)) (S := S) (X := (dmO G K F ++ (hiW G (K 3) r (va_up V (rgN nw) S) (nI (rgN nw)) (nI (min (dp + 1) 8)) ++ X))) ok x) ml_X11_106 yf_X9_letPass 0 rfl rfl (As := [.int x]) rfl rfl ⟨(Nat.le_of_ble_eq_true rfl), (Nat.le_of_ble_eq_true rfl)⟩ ⟨(Nat.le_of_ble_eq_true rfl), (Nat.le_of_ble_eq_true rfl)⟩ hl.1 (Nat.le_of_ble_eq_true rfl) dX11_pass_27 (fun r_27 _ H locs hp_27 hw => ?_)
  obtain rfl : r_27 = (lpS S x).2 := hp_27
  replace hw : WH G s (stW G (K 0) ((lpS S x).1) ++ (dmO G K F ++ (hiW G (K 3) r (va_up V (rgN nw) S) (nI (rgN nw)) (nI (min (dp + 1) 8)) ++ X))) H locs := hw
  refine vx_ret ?_
  exact r_iret C hw rfl rfl () (⟨hp_8, rfl⟩) rfl (Nat.le_of_ble_eq_true rfl) (Nat.le_of_ble_eq_true rfl) dX11_pass_30

set_option maxHeartbeats 4000000 in
set_option maxRecDepth 100000 in
theorem x11_openPool {l : Launch} {G : Gx} (hF : SF l G) {K : Nat → Nat → Nat} {S : SV} {r : Nat → Nat → Nat} {V : Nat → SV} {nw dp : Nat} {F : Nat → Int32} {X : va_W} (ok : okS S) (hn8 : nw < 8) (hd8 : dp ≤ 8) (hb : isB (S.1 2)) : XI l G yX11_openPool cX11_openPool 1 .int 7 1 6 [.ref (K 7 0)] (stW G (K 0) S ++ (dmO G K F ++ (hiW G (K 3) r V (nI nw) (nI dp) ++ X))) (fun r _ => opnF S = 0 ∧ r = S.1 1) (fun _ : Unit => stW G (K 0) (sI S 2 1) ++ (dmO G K F ++ (hiW G (K 3) r (va_up V (rgN nw) S) (nI (rgN nw)) (nI (min (dp + 1) 8)) ++ X))) (fun k => k = (opnF S) ∧ (opnF S) ≠ 0) (fun _ => stW G (K 0) S ++ (dmO G K F ++ (hiW G (K 3) r V (nI nw) (nI dp) ++ X))) := by
  refine mx_of hF (by decide) (Nat.le_of_ble_eq_true rfl) ?_
  intro p e s m below meth c C hnt ls hl H locs hw
  have hl : lv_has ls 1 [(0, .ref (K 7 0))] := hl
  refine lv_aload_n C.1 C.2.1 dX11_openPool_0 rfl (lv_at hl 0 rfl) ?_
  refine r_get C hw 19 rfl rfl in_X11 0 (by decide) fl_X11_10 rfl (v := .ref (K 0 0)) rfl dX11_openPool_1 ?_
  refine r_ve C hw (k9_openFault hF (a := (K 0)) (S := S) (X := (dmO G K F ++ (hiW G (K 3) r V (nI nw) (nI dp) ++ X))) ok) ml_X11_109 yf_X9_openFault 0 rfl rfl (As := []) rfl rfl ⟨(Nat.le_of_ble_eq_true rfl), (Nat.le_of_ble_eq_true rfl)⟩ ⟨(Nat.le_of_ble_eq_true rfl), (Nat.le_of_ble_eq_true rfl)⟩ hl.1 (Nat.le_of_ble_eq_true rfl) dX11_openPool_4 (fun o_4 _ H locs hp_4 hw => ?_)
  have hp_4 : o_4 = some (opnF S) := hp_4
  rw [hp_4]
  replace hw : WH G s (stW G (K 0) S ++ (dmO G K F ++ (hiW G (K 3) r V (nI nw) (nI dp) ++ X))) H locs := hw
  refine x_sv C hw (x11_refuse hF (i := (opnF S)) (opnF_6 ..) (X := stW G (K 0) S ++ (dmO G K F ++ (hiW G (K 3) r V (nI nw) (nI dp) ++ X)))) ml_X11_65 yf_X11_refuse (As := [.ref (G.2.2.2.1 (opnF S))]) rfl rfl ⟨(Nat.le_of_ble_eq_true rfl), (Nat.le_of_ble_eq_true rfl)⟩ ⟨(Nat.le_of_ble_eq_true rfl), (Nat.le_of_ble_eq_true rfl)⟩ hl.1 (Nat.le_of_ble_eq_true rfl) dX11_openPool_7 hnt (fun k hk => ⟨hk, rfl⟩) (Nat.le_of_ble_eq_true rfl) (Nat.le_of_ble_eq_true rfl) (fun u_7 H locs hp_7 hw => ?_)
  replace hw : WH G s (stW G (K 0) S ++ (dmO G K F ++ (hiW G (K 3) r V (nI nw) (nI dp) ++ X))) H locs := hw
  refine lv_aload_n C.1 C.2.1 dX11_openPool_10 rfl (lv_at hl 0 rfl) ?_
  refine r_get C hw 19 rfl rfl in_X11 3 (by decide) fl_X11_25 rfl (v := .ref (K 3 0)) rfl dX11_openPool_11 ?_
  refine lv_aload_n C.1 C.2.1 dX11_openPool_14 rfl (lv_at hl 0 rfl) ?_
  refine r_get C hw 19 rfl rfl in_X11 0 (by decide) fl_X11_10 rfl (v := .ref (K 0 0)) rfl dX11_openPool_15 ?_
  replace hw : WH G s (stW G (K 0) S ++ (hiW G (K 3) r V (nI nw) (nI dp) ++ (dmO G K F ++ X))) H locs := hw.perm ((List.perm_append_comm_assoc _ _ _).append_left _)
  refine r_vv C hw (k4_push hF (a := K 0) (S := S) (h := K 3) (r := r) (V := V) (nw := nw) (dp := dp) (X := (dmO G K F ++ X)) hn8 hd8 (hb)) ml_X11_69 yf_X4_push 19 rfl rfl (As := [.ref (K 0 0)]) rfl rfl ⟨(Nat.le_of_ble_eq_true rfl), (Nat.le_of_ble_eq_true rfl)⟩ ⟨(Nat.le_of_ble_eq_true rfl), (Nat.le_of_ble_eq_true rfl)⟩ hl.1 (Nat.le_of_ble_eq_true rfl) dX11_openPool_18 (fun _ H locs hp_18 hw => ?_)
  replace hw : WH G s (stW G (K 0) S ++ (hiW G (K 3) r (va_up V (rgN nw) S) (nI (rgN nw)) (nI (min (dp + 1) 8)) ++ (dmO G K F ++ X))) H locs := hw
  replace hw : WH G s (stW G (K 0) S ++ (dmO G K F ++ (hiW G (K 3) r (va_up V (rgN nw) S) (nI (rgN nw)) (nI (min (dp + 1) 8)) ++ X))) H locs := hw.perm ((List.perm_append_comm_assoc _ _ _).append_left _)
  refine lv_aload_n C.1 C.2.1 dX11_openPool_21 rfl (lv_at hl 0 rfl) ?_
  refine r_get C hw 19 rfl rfl in_X11 0 (by decide) fl_X11_10 rfl (v := .ref (K 0 0)) rfl dX11_openPool_22 ?_
  refine r_vi C hw (k9_startPool hF (a := (K 0)) (S := S) (X := (dmO G K F ++ (hiW G (K 3) r (va_up V (rgN nw) S) (nI (rgN nw)) (nI (min (dp + 1) 8)) ++ X)))) ml_X11_113 yf_X9_startPool 0 rfl rfl (As := []) rfl rfl ⟨(Nat.le_of_ble_eq_true rfl), (Nat.le_of_ble_eq_true rfl)⟩ ⟨(Nat.le_of_ble_eq_true rfl), (Nat.le_of_ble_eq_true rfl)⟩ hl.1 (Nat.le_of_ble_eq_true rfl) dX11_openPool_25 (fun r_25 _ H locs hp_25 hw => ?_)
  obtain rfl : r_25 = S.1 1 := hp_25
  replace hw : WH G s (stW G (K 0) (sI S 2 1) ++ (dmO G K F ++ (hiW G (K 3) r (va_up V (rgN nw) S) (nI (rgN nw)) (nI (min (dp + 1) 8)) ++ X))) H locs := hw
  refine vx_ret ?_
  exact r_iret C hw rfl rfl () (⟨hp_7, rfl⟩) rfl (Nat.le_of_ble_eq_true rfl) (Nat.le_of_ble_eq_true rfl) dX11_openPool_28

set_option maxHeartbeats 4000000 in
set_option maxRecDepth 100000 in
theorem x11_closePool {l : Launch} {G : Gx} (hF : SF l G) {K : Nat → Nat → Nat} {S : SV} {r : Nat → Nat → Nat} {V : Nat → SV} {nw dp : Nat} {F : Nat → Int32} {X : va_W} (ok : okS S) (hn8 : nw < 8) (hd8 : dp ≤ 8) (hb : isB (S.1 2)) : XI l G yX11_closePool cX11_closePool 1 .int 7 2 9 [.ref (K 7 0)] (stW G (K 0) S ++ (dmO G K F ++ (hiW G (K 3) r V (nI nw) (nI dp) ++ X))) (fun r _ => cloF S = 0 ∧ r = (poolS S (nO S)).2.1) (fun _ : Unit => stW G (K 0) (epS S) ++ (dmO G K F ++ (hiW G (K 3) r (va_up V (rgN nw) S) (nI (rgN nw)) (nI (min (dp + 1) 8)) ++ X))) (fun k => k = (cloF S) ∧ (cloF S) ≠ 0) (fun _ => stW G (K 0) S ++ (dmO G K F ++ (hiW G (K 3) r V (nI nw) (nI dp) ++ X))) := by
  refine mx_of hF (by decide) (Nat.le_of_ble_eq_true rfl) ?_
  intro p e s m below meth c C hnt ls hl H locs hw
  have hl : lv_has ls 1 [(0, .ref (K 7 0))] := hl
  refine lv_aload_n C.1 C.2.1 dX11_closePool_0 rfl (lv_at hl 0 rfl) ?_
  refine r_get C hw 19 rfl rfl in_X11 0 (by decide) fl_X11_10 rfl (v := .ref (K 0 0)) rfl dX11_closePool_1 ?_
  refine r_ve C hw (k9_closeFault hF (a := (K 0)) (S := S) (X := (dmO G K F ++ (hiW G (K 3) r V (nI nw) (nI dp) ++ X))) ok) ml_X11_117 yf_X9_closeFault 0 rfl rfl (As := []) rfl rfl ⟨(Nat.le_of_ble_eq_true rfl), (Nat.le_of_ble_eq_true rfl)⟩ ⟨(Nat.le_of_ble_eq_true rfl), (Nat.le_of_ble_eq_true rfl)⟩ hl.1 (Nat.le_of_ble_eq_true rfl) dX11_closePool_4 (fun o_4 _ H locs hp_4 hw => ?_)
  have hp_4 : o_4 = some (cloF S) := hp_4
  rw [hp_4]
  replace hw : WH G s (stW G (K 0) S ++ (dmO G K F ++ (hiW G (K 3) r V (nI nw) (nI dp) ++ X))) H locs := hw
  refine x_sv C hw (x11_refuse hF (i := (cloF S)) (cloF_6 ..) (X := stW G (K 0) S ++ (dmO G K F ++ (hiW G (K 3) r V (nI nw) (nI dp) ++ X)))) ml_X11_65 yf_X11_refuse (As := [.ref (G.2.2.2.1 (cloF S))]) rfl rfl ⟨(Nat.le_of_ble_eq_true rfl), (Nat.le_of_ble_eq_true rfl)⟩ ⟨(Nat.le_of_ble_eq_true rfl), (Nat.le_of_ble_eq_true rfl)⟩ hl.1 (Nat.le_of_ble_eq_true rfl) dX11_closePool_7 hnt (fun k hk => ⟨hk, rfl⟩) (Nat.le_of_ble_eq_true rfl) (Nat.le_of_ble_eq_true rfl) (fun u_7 H locs hp_7 hw => ?_)
  replace hw : WH G s (stW G (K 0) S ++ (dmO G K F ++ (hiW G (K 3) r V (nI nw) (nI dp) ++ X))) H locs := hw
  refine lv_aload_n C.1 C.2.1 dX11_closePool_10 rfl (lv_at hl 0 rfl) ?_
  refine r_get C hw 19 rfl rfl in_X11 3 (by decide) fl_X11_25 rfl (v := .ref (K 3 0)) rfl dX11_closePool_11 ?_
  refine lv_aload_n C.1 C.2.1 dX11_closePool_14 rfl (lv_at hl 0 rfl) ?_
  refine r_get C hw 19 rfl rfl in_X11 0 (by decide) fl_X11_10 rfl (v := .ref (K 0 0)) rfl dX11_closePool_15 ?_
  replace hw : WH G s (stW G (K 0) S ++ (hiW G (K 3) r V (nI nw) (nI dp) ++ (dmO G K F ++ X))) H locs := hw.perm ((List.perm_append_comm_assoc _ _ _).append_left _)
  refine r_vv C hw (k4_push hF (a := K 0) (S := S) (h := K 3) (r := r) (V := V) (nw := nw) (dp := dp) (X := (dmO G K F ++ X)) hn8 hd8 (hb)) ml_X11_69 yf_X4_push 19 rfl rfl (As := [.ref (K 0 0)]) rfl rfl ⟨(Nat.le_of_ble_eq_true rfl), (Nat.le_of_ble_eq_true rfl)⟩ ⟨(Nat.le_of_ble_eq_true rfl), (Nat.le_of_ble_eq_true rfl)⟩ hl.1 (Nat.le_of_ble_eq_true rfl) dX11_closePool_18 (fun _ H locs hp_18 hw => ?_)
  replace hw : WH G s (stW G (K 0) S ++ (hiW G (K 3) r (va_up V (rgN nw) S) (nI (rgN nw)) (nI (min (dp + 1) 8)) ++ (dmO G K F ++ X))) H locs := hw
  replace hw : WH G s (stW G (K 0) S ++ (dmO G K F ++ (hiW G (K 3) r (va_up V (rgN nw) S) (nI (rgN nw)) (nI (min (dp + 1) 8)) ++ X))) H locs := hw.perm ((List.perm_append_comm_assoc _ _ _).append_left _)
  refine lv_aload_n C.1 C.2.1 dX11_closePool_21 rfl (lv_at hl 0 rfl) ?_
  refine r_get C hw 19 rfl rfl in_X11 0 (by decide) fl_X11_10 rfl (v := .ref (K 0 0)) rfl dX11_closePool_22 ?_
  refine r_vi C hw (k9_endPool hF (a := (K 0)) (S := S) (X := (dmO G K F ++ (hiW G (K 3) r (va_up V (rgN nw) S) (nI (rgN nw)) (nI (min (dp + 1) 8)) ++ X))) ok) ml_X11_120 yf_X9_endPool 0 rfl rfl (As := []) rfl rfl ⟨(Nat.le_of_ble_eq_true rfl), (Nat.le_of_ble_eq_true rfl)⟩ ⟨(Nat.le_of_ble_eq_true rfl), (Nat.le_of_ble_eq_true rfl)⟩ hl.1 (Nat.le_of_ble_eq_true rfl) dX11_closePool_25 (fun r_25 _ H locs hp_25 hw => ?_)
  obtain rfl : r_25 = (poolS S (nO S)).2.1 := hp_25
  replace hw : WH G s (stW G (K 0) (epS S) ++ (dmO G K F ++ (hiW G (K 3) r (va_up V (rgN nw) S) (nI (rgN nw)) (nI (min (dp + 1) 8)) ++ X))) H locs := hw
  refine vx_ret ?_
  exact r_iret C hw rfl rfl () (⟨hp_7, rfl⟩) rfl (Nat.le_of_ble_eq_true rfl) (Nat.le_of_ble_eq_true rfl) dX11_closePool_28

set_option maxHeartbeats 4000000 in
set_option maxRecDepth 100000 in
theorem x11_placeBuy {l : Launch} {G : Gx} (hF : SF l G) {K : Nat → Nat → Nat} {S : SV} {r : Nat → Nat → Nat} {V : Nat → SV} {nw dp : Nat} {F : Nat → Int32} {X : va_W} (ok : okS S) (hn8 : nw < 8) (hd8 : dp ≤ 8) (hb : isB (S.1 2)) (x pr q : Int32) : XI l G yX11_placeBuy cX11_placeBuy 4 .int 8 1 6 [.ref (K 7 0), .int x, .int pr, .int q] (stW G (K 0) S ++ (dmO G K F ++ (hiW G (K 3) r V (nI nw) (nI dp) ++ X))) (fun r _ => ordF S true x pr q true (decide (20 ≤ nO S)) = 0 ∧ r = S.1 4) (fun _ : Unit => stW G (K 0) (plS S true x pr q 0) ++ (dmO G K F ++ (hiW G (K 3) r (va_up V (rgN nw) S) (nI (rgN nw)) (nI (min (dp + 1) 8)) ++ X))) (fun k => k = (ordF S true x pr q true (decide (20 ≤ nO S))) ∧ (ordF S true x pr q true (decide (20 ≤ nO S))) ≠ 0) (fun _ => stW G (K 0) S ++ (dmO G K F ++ (hiW G (K 3) r V (nI nw) (nI dp) ++ X))) := by
  refine mx_of hF (by decide) (Nat.le_of_ble_eq_true rfl) ?_
  intro p e s m below meth c C hnt ls hl H locs hw
  have hl : lv_has ls 4 [(0, .ref (K 7 0)), (1, .int x), (2, .int pr), (3, .int q)] := hl
  refine lv_aload_n C.1 C.2.1 dX11_placeBuy_0 rfl (lv_at hl 0 rfl) ?_
  refine lv_iconst (v := 1) C.1 C.2.1 dX11_placeBuy_1 (by decide) ?_
  refine lv_iload_n C.1 C.2.1 dX11_placeBuy_2 rfl (lv_at hl 1 rfl) ?_
  refine lv_iload_n C.1 C.2.1 dX11_placeBuy_3 rfl (lv_at hl 2 rfl) ?_
  refine lv_iload_n C.1 C.2.1 dX11_placeBuy_4 rfl (lv_at hl 3 rfl) ?_
  refine lv_iconst (v := 0) C.1 C.2.1 dX11_placeBuy_5 (by decide) ?_
  refine lv_iconst (v := 1) C.1 C.2.1 dX11_placeBuy_6 (by decide) ?_
  refine x_vi C hw (x11_placeOrder hF (K := K) (S := S) (r := r) (V := V) (nw := nw) (dp := dp) (F := F) (X := X) ok hn8 hd8 hb true x pr q 0 true) ml_X11_83 yf_X11_placeOrder 19 rfl rfl (As := [.int 1, .int x, .int pr, .int q, .int 0, .int 1]) rfl rfl ⟨(Nat.le_of_ble_eq_true rfl), (Nat.le_of_ble_eq_true rfl)⟩ ⟨(Nat.le_of_ble_eq_true rfl), (Nat.le_of_ble_eq_true rfl)⟩ hl.1 (Nat.le_of_ble_eq_true rfl) dX11_placeBuy_7 hnt (fun k hk => ⟨hk, rfl⟩) (Nat.le_of_ble_eq_true rfl) (Nat.le_of_ble_eq_true rfl) (fun r_7 u_7 H locs hp_7 hw => ?_)
  replace hw : WH G s (stW G (K 0) (plS S true x pr q 0) ++ (dmO G K F ++ (hiW G (K 3) r (va_up V (rgN nw) S) (nI (rgN nw)) (nI (min (dp + 1) 8)) ++ X))) H locs := hw
  refine vx_ret ?_
  exact r_iret C hw rfl rfl () (hp_7) rfl (Nat.le_of_ble_eq_true rfl) (Nat.le_of_ble_eq_true rfl) dX11_placeBuy_10

set_option maxHeartbeats 4000000 in
set_option maxRecDepth 100000 in
theorem x11_placeBuyFor {l : Launch} {G : Gx} (hF : SF l G) {K : Nat → Nat → Nat} {S : SV} {r : Nat → Nat → Nat} {V : Nat → SV} {nw dp : Nat} {F : Nat → Int32} {X : va_W} (ok : okS S) (hn8 : nw < 8) (hd8 : dp ≤ 8) (hb : isB (S.1 2)) (x pr q mi : Int32) : XI l G yX11_placeBuyFor cX11_placeBuyFor 5 .int 8 1 6 [.ref (K 7 0), .int x, .int pr, .int q, .int mi] (stW G (K 0) S ++ (dmO G K F ++ (hiW G (K 3) r V (nI nw) (nI dp) ++ X))) (fun r _ => ordF S true x pr q (inR mi 1 60) (decide (20 ≤ nO S)) = 0 ∧ r = S.1 4) (fun _ : Unit => stW G (K 0) (plS S true x pr q mi) ++ (dmO G K F ++ (hiW G (K 3) r (va_up V (rgN nw) S) (nI (rgN nw)) (nI (min (dp + 1) 8)) ++ X))) (fun k => k = (ordF S true x pr q (inR mi 1 60) (decide (20 ≤ nO S))) ∧ (ordF S true x pr q (inR mi 1 60) (decide (20 ≤ nO S))) ≠ 0) (fun _ => stW G (K 0) S ++ (dmO G K F ++ (hiW G (K 3) r V (nI nw) (nI dp) ++ X))) := by
  refine mx_of hF (by decide) (Nat.le_of_ble_eq_true rfl) ?_
  intro p e s m below meth c C hnt ls hl H locs hw
  have hl : lv_has ls 5 [(0, .ref (K 7 0)), (1, .int x), (2, .int pr), (3, .int q), (4, .int mi)] := hl
  refine lv_aload_n C.1 C.2.1 dX11_placeBuyFor_0 rfl (lv_at hl 0 rfl) ?_
  refine lv_iconst (v := 1) C.1 C.2.1 dX11_placeBuyFor_1 (by decide) ?_
  refine lv_iload_n C.1 C.2.1 dX11_placeBuyFor_2 rfl (lv_at hl 1 rfl) ?_
  refine lv_iload_n C.1 C.2.1 dX11_placeBuyFor_3 rfl (lv_at hl 2 rfl) ?_
  refine lv_iload_n C.1 C.2.1 dX11_placeBuyFor_4 rfl (lv_at hl 3 rfl) ?_
  refine lv_iload C.1 C.2.1 dX11_placeBuyFor_5 (lv_at hl 4 rfl) ?_
  refine lv_iload C.1 C.2.1 dX11_placeBuyFor_7 (lv_at hl 4 rfl) ?_
  refine lv_iconst (v := 1) C.1 C.2.1 dX11_placeBuyFor_9 (by decide) ?_
  refine lv_bipush (v := 60) C.1 C.2.1 dX11_placeBuyFor_10 (by decide) ?_
  refine r_si C hw (k11_isWithin hF (X := stW G (K 0) S ++ (dmO G K F ++ (hiW G (K 3) r V (nI nw) (nI dp) ++ X))) mi 1 60) ml_X11_87 yf_X11_isWithin (As := [.int mi, .int 1, .int 60]) rfl rfl ⟨(Nat.le_of_ble_eq_true rfl), (Nat.le_of_ble_eq_true rfl)⟩ ⟨(Nat.le_of_ble_eq_true rfl), (Nat.le_of_ble_eq_true rfl)⟩ hl.1 (Nat.le_of_ble_eq_true rfl) dX11_placeBuyFor_12 (fun r_12 _ H locs hp_12 hw => ?_)
  obtain rfl : r_12 = bI (inR mi 1 60) := hp_12
  replace hw : WH G s (stW G (K 0) S ++ (dmO G K F ++ (hiW G (K 3) r V (nI nw) (nI dp) ++ X))) H locs := hw
  refine x_vi C hw (x11_placeOrder hF (K := K) (S := S) (r := r) (V := V) (nw := nw) (dp := dp) (F := F) (X := X) ok hn8 hd8 hb true x pr q mi (inR mi 1 60)) ml_X11_83 yf_X11_placeOrder 19 rfl rfl (As := [.int 1, .int x, .int pr, .int q, .int mi, .int (bI (inR mi 1 60))]) rfl rfl ⟨(Nat.le_of_ble_eq_true rfl), (Nat.le_of_ble_eq_true rfl)⟩ ⟨(Nat.le_of_ble_eq_true rfl), (Nat.le_of_ble_eq_true rfl)⟩ hl.1 (Nat.le_of_ble_eq_true rfl) dX11_placeBuyFor_15 hnt (fun k hk => ⟨hk, rfl⟩) (Nat.le_of_ble_eq_true rfl) (Nat.le_of_ble_eq_true rfl) (fun r_15 u_15 H locs hp_15 hw => ?_)
  replace hw : WH G s (stW G (K 0) (plS S true x pr q mi) ++ (dmO G K F ++ (hiW G (K 3) r (va_up V (rgN nw) S) (nI (rgN nw)) (nI (min (dp + 1) 8)) ++ X))) H locs := hw
  refine vx_ret ?_
  exact r_iret C hw rfl rfl () (hp_15) rfl (Nat.le_of_ble_eq_true rfl) (Nat.le_of_ble_eq_true rfl) dX11_placeBuyFor_18

set_option maxHeartbeats 4000000 in
set_option maxRecDepth 100000 in
theorem x11_placeSell {l : Launch} {G : Gx} (hF : SF l G) {K : Nat → Nat → Nat} {S : SV} {r : Nat → Nat → Nat} {V : Nat → SV} {nw dp : Nat} {F : Nat → Int32} {X : va_W} (ok : okS S) (hn8 : nw < 8) (hd8 : dp ≤ 8) (hb : isB (S.1 2)) (x pr q : Int32) : XI l G yX11_placeSell cX11_placeSell 4 .int 8 1 6 [.ref (K 7 0), .int x, .int pr, .int q] (stW G (K 0) S ++ (dmO G K F ++ (hiW G (K 3) r V (nI nw) (nI dp) ++ X))) (fun r _ => ordF S false x pr q true (decide (20 ≤ nO S)) = 0 ∧ r = S.1 4) (fun _ : Unit => stW G (K 0) (plS S false x pr q 0) ++ (dmO G K F ++ (hiW G (K 3) r (va_up V (rgN nw) S) (nI (rgN nw)) (nI (min (dp + 1) 8)) ++ X))) (fun k => k = (ordF S false x pr q true (decide (20 ≤ nO S))) ∧ (ordF S false x pr q true (decide (20 ≤ nO S))) ≠ 0) (fun _ => stW G (K 0) S ++ (dmO G K F ++ (hiW G (K 3) r V (nI nw) (nI dp) ++ X))) := by
  refine mx_of hF (by decide) (Nat.le_of_ble_eq_true rfl) ?_
  intro p e s m below meth c C hnt ls hl H locs hw
  have hl : lv_has ls 4 [(0, .ref (K 7 0)), (1, .int x), (2, .int pr), (3, .int q)] := hl
  refine lv_aload_n C.1 C.2.1 dX11_placeSell_0 rfl (lv_at hl 0 rfl) ?_
  refine lv_iconst (v := 0) C.1 C.2.1 dX11_placeSell_1 (by decide) ?_
  refine lv_iload_n C.1 C.2.1 dX11_placeSell_2 rfl (lv_at hl 1 rfl) ?_
  refine lv_iload_n C.1 C.2.1 dX11_placeSell_3 rfl (lv_at hl 2 rfl) ?_
  refine lv_iload_n C.1 C.2.1 dX11_placeSell_4 rfl (lv_at hl 3 rfl) ?_
  refine lv_iconst (v := 0) C.1 C.2.1 dX11_placeSell_5 (by decide) ?_
  refine lv_iconst (v := 1) C.1 C.2.1 dX11_placeSell_6 (by decide) ?_
  refine x_vi C hw (x11_placeOrder hF (K := K) (S := S) (r := r) (V := V) (nw := nw) (dp := dp) (F := F) (X := X) ok hn8 hd8 hb false x pr q 0 true) ml_X11_83 yf_X11_placeOrder 19 rfl rfl (As := [.int 0, .int x, .int pr, .int q, .int 0, .int 1]) rfl rfl ⟨(Nat.le_of_ble_eq_true rfl), (Nat.le_of_ble_eq_true rfl)⟩ ⟨(Nat.le_of_ble_eq_true rfl), (Nat.le_of_ble_eq_true rfl)⟩ hl.1 (Nat.le_of_ble_eq_true rfl) dX11_placeSell_7 hnt (fun k hk => ⟨hk, rfl⟩) (Nat.le_of_ble_eq_true rfl) (Nat.le_of_ble_eq_true rfl) (fun r_7 u_7 H locs hp_7 hw => ?_)
  replace hw : WH G s (stW G (K 0) (plS S false x pr q 0) ++ (dmO G K F ++ (hiW G (K 3) r (va_up V (rgN nw) S) (nI (rgN nw)) (nI (min (dp + 1) 8)) ++ X))) H locs := hw
  refine vx_ret ?_
  exact r_iret C hw rfl rfl () (hp_7) rfl (Nat.le_of_ble_eq_true rfl) (Nat.le_of_ble_eq_true rfl) dX11_placeSell_10

set_option maxHeartbeats 4000000 in
set_option maxRecDepth 100000 in
theorem x11_placeSellFor {l : Launch} {G : Gx} (hF : SF l G) {K : Nat → Nat → Nat} {S : SV} {r : Nat → Nat → Nat} {V : Nat → SV} {nw dp : Nat} {F : Nat → Int32} {X : va_W} (ok : okS S) (hn8 : nw < 8) (hd8 : dp ≤ 8) (hb : isB (S.1 2)) (x pr q mi : Int32) : XI l G yX11_placeSellFor cX11_placeSellFor 5 .int 8 1 6 [.ref (K 7 0), .int x, .int pr, .int q, .int mi] (stW G (K 0) S ++ (dmO G K F ++ (hiW G (K 3) r V (nI nw) (nI dp) ++ X))) (fun r _ => ordF S false x pr q (inR mi 1 60) (decide (20 ≤ nO S)) = 0 ∧ r = S.1 4) (fun _ : Unit => stW G (K 0) (plS S false x pr q mi) ++ (dmO G K F ++ (hiW G (K 3) r (va_up V (rgN nw) S) (nI (rgN nw)) (nI (min (dp + 1) 8)) ++ X))) (fun k => k = (ordF S false x pr q (inR mi 1 60) (decide (20 ≤ nO S))) ∧ (ordF S false x pr q (inR mi 1 60) (decide (20 ≤ nO S))) ≠ 0) (fun _ => stW G (K 0) S ++ (dmO G K F ++ (hiW G (K 3) r V (nI nw) (nI dp) ++ X))) := by
  refine mx_of hF (by decide) (Nat.le_of_ble_eq_true rfl) ?_
  intro p e s m below meth c C hnt ls hl H locs hw
  have hl : lv_has ls 5 [(0, .ref (K 7 0)), (1, .int x), (2, .int pr), (3, .int q), (4, .int mi)] := hl
  refine lv_aload_n C.1 C.2.1 dX11_placeSellFor_0 rfl (lv_at hl 0 rfl) ?_
  refine lv_iconst (v := 0) C.1 C.2.1 dX11_placeSellFor_1 (by decide) ?_
  refine lv_iload_n C.1 C.2.1 dX11_placeSellFor_2 rfl (lv_at hl 1 rfl) ?_
  refine lv_iload_n C.1 C.2.1 dX11_placeSellFor_3 rfl (lv_at hl 2 rfl) ?_
  refine lv_iload_n C.1 C.2.1 dX11_placeSellFor_4 rfl (lv_at hl 3 rfl) ?_
  refine lv_iload C.1 C.2.1 dX11_placeSellFor_5 (lv_at hl 4 rfl) ?_
  refine lv_iload C.1 C.2.1 dX11_placeSellFor_7 (lv_at hl 4 rfl) ?_
  refine lv_iconst (v := 1) C.1 C.2.1 dX11_placeSellFor_9 (by decide) ?_
  refine lv_bipush (v := 60) C.1 C.2.1 dX11_placeSellFor_10 (by decide) ?_
  refine r_si C hw (k11_isWithin hF (X := stW G (K 0) S ++ (dmO G K F ++ (hiW G (K 3) r V (nI nw) (nI dp) ++ X))) mi 1 60) ml_X11_87 yf_X11_isWithin (As := [.int mi, .int 1, .int 60]) rfl rfl ⟨(Nat.le_of_ble_eq_true rfl), (Nat.le_of_ble_eq_true rfl)⟩ ⟨(Nat.le_of_ble_eq_true rfl), (Nat.le_of_ble_eq_true rfl)⟩ hl.1 (Nat.le_of_ble_eq_true rfl) dX11_placeSellFor_12 (fun r_12 _ H locs hp_12 hw => ?_)
  obtain rfl : r_12 = bI (inR mi 1 60) := hp_12
  replace hw : WH G s (stW G (K 0) S ++ (dmO G K F ++ (hiW G (K 3) r V (nI nw) (nI dp) ++ X))) H locs := hw
  refine x_vi C hw (x11_placeOrder hF (K := K) (S := S) (r := r) (V := V) (nw := nw) (dp := dp) (F := F) (X := X) ok hn8 hd8 hb false x pr q mi (inR mi 1 60)) ml_X11_83 yf_X11_placeOrder 19 rfl rfl (As := [.int 0, .int x, .int pr, .int q, .int mi, .int (bI (inR mi 1 60))]) rfl rfl ⟨(Nat.le_of_ble_eq_true rfl), (Nat.le_of_ble_eq_true rfl)⟩ ⟨(Nat.le_of_ble_eq_true rfl), (Nat.le_of_ble_eq_true rfl)⟩ hl.1 (Nat.le_of_ble_eq_true rfl) dX11_placeSellFor_15 hnt (fun k hk => ⟨hk, rfl⟩) (Nat.le_of_ble_eq_true rfl) (Nat.le_of_ble_eq_true rfl) (fun r_15 u_15 H locs hp_15 hw => ?_)
  replace hw : WH G s (stW G (K 0) (plS S false x pr q mi) ++ (dmO G K F ++ (hiW G (K 3) r (va_up V (rgN nw) S) (nI (rgN nw)) (nI (min (dp + 1) 8)) ++ X))) H locs := hw
  refine vx_ret ?_
  exact r_iret C hw rfl rfl () (hp_15) rfl (Nat.le_of_ble_eq_true rfl) (Nat.le_of_ble_eq_true rfl) dX11_placeSellFor_18

set_option maxHeartbeats 4000000 in
set_option maxRecDepth 100000 in
theorem x11_takeBuy {l : Launch} {G : Gx} (hF : SF l G) {K : Nat → Nat → Nat} {S : SV} {r : Nat → Nat → Nat} {V : Nat → SV} {nw dp : Nat} {F : Nat → Int32} {X : va_W} (ok : okS S) (hn8 : nw < 8) (hd8 : dp ≤ 8) {pb : Bool} (hb : S.1 2 = bI pb) (x pr q : Int32) : XI l G yX11_takeBuy cX11_takeBuy 4 .int 8 1 6 [.ref (K 7 0), .int x, .int pr, .int q] (stW G (K 0) S ++ (dmO G K F ++ (hiW G (K 3) r V (nI nw) (nI dp) ++ X))) (fun r _ => ordF S true x pr q true pb = 0 ∧ r = q - (tkS S true x pr q).2) (fun _ : Unit => stW G (K 0) ((tkS S true x pr q).1) ++ (dmO G K F ++ (hiW G (K 3) r (va_up V (rgN nw) S) (nI (rgN nw)) (nI (min (dp + 1) 8)) ++ X))) (fun k => k = (ordF S true x pr q true pb) ∧ (ordF S true x pr q true pb) ≠ 0) (fun _ => stW G (K 0) S ++ (dmO G K F ++ (hiW G (K 3) r V (nI nw) (nI dp) ++ X))) := by
  refine mx_of hF (by decide) (Nat.le_of_ble_eq_true rfl) ?_
  intro p e s m below meth c C hnt ls hl H locs hw
  have hl : lv_has ls 4 [(0, .ref (K 7 0)), (1, .int x), (2, .int pr), (3, .int q)] := hl
  refine lv_aload_n C.1 C.2.1 dX11_takeBuy_0 rfl (lv_at hl 0 rfl) ?_
  refine lv_iconst (v := 1) C.1 C.2.1 dX11_takeBuy_1 (by decide) ?_
  refine lv_iload_n C.1 C.2.1 dX11_takeBuy_2 rfl (lv_at hl 1 rfl) ?_
  refine lv_iload_n C.1 C.2.1 dX11_takeBuy_3 rfl (lv_at hl 2 rfl) ?_
  refine lv_iload_n C.1 C.2.1 dX11_takeBuy_4 rfl (lv_at hl 3 rfl) ?_
  refine x_vi C hw (x11_takeAtOnce hF (K := K) (S := S) (r := r) (V := V) (nw := nw) (dp := dp) (F := F) (X := X) ok hn8 hd8 hb true x pr q) ml_X11_91 yf_X11_takeAtOnce 19 rfl rfl (As := [.int 1, .int x, .int pr, .int q]) rfl rfl ⟨(Nat.le_of_ble_eq_true rfl), (Nat.le_of_ble_eq_true rfl)⟩ ⟨(Nat.le_of_ble_eq_true rfl), (Nat.le_of_ble_eq_true rfl)⟩ hl.1 (Nat.le_of_ble_eq_true rfl) dX11_takeBuy_5 hnt (fun k hk => ⟨hk, rfl⟩) (Nat.le_of_ble_eq_true rfl) (Nat.le_of_ble_eq_true rfl) (fun r_5 u_5 H locs hp_5 hw => ?_)
  replace hw : WH G s (stW G (K 0) ((tkS S true x pr q).1) ++ (dmO G K F ++ (hiW G (K 3) r (va_up V (rgN nw) S) (nI (rgN nw)) (nI (min (dp + 1) 8)) ++ X))) H locs := hw
  refine vx_ret ?_
  exact r_iret C hw rfl rfl () (hp_5) rfl (Nat.le_of_ble_eq_true rfl) (Nat.le_of_ble_eq_true rfl) dX11_takeBuy_8

set_option maxHeartbeats 4000000 in
set_option maxRecDepth 100000 in
theorem x11_takeSell {l : Launch} {G : Gx} (hF : SF l G) {K : Nat → Nat → Nat} {S : SV} {r : Nat → Nat → Nat} {V : Nat → SV} {nw dp : Nat} {F : Nat → Int32} {X : va_W} (ok : okS S) (hn8 : nw < 8) (hd8 : dp ≤ 8) {pb : Bool} (hb : S.1 2 = bI pb) (x pr q : Int32) : XI l G yX11_takeSell cX11_takeSell 4 .int 8 1 6 [.ref (K 7 0), .int x, .int pr, .int q] (stW G (K 0) S ++ (dmO G K F ++ (hiW G (K 3) r V (nI nw) (nI dp) ++ X))) (fun r _ => ordF S false x pr q true pb = 0 ∧ r = q - (tkS S false x pr q).2) (fun _ : Unit => stW G (K 0) ((tkS S false x pr q).1) ++ (dmO G K F ++ (hiW G (K 3) r (va_up V (rgN nw) S) (nI (rgN nw)) (nI (min (dp + 1) 8)) ++ X))) (fun k => k = (ordF S false x pr q true pb) ∧ (ordF S false x pr q true pb) ≠ 0) (fun _ => stW G (K 0) S ++ (dmO G K F ++ (hiW G (K 3) r V (nI nw) (nI dp) ++ X))) := by
  refine mx_of hF (by decide) (Nat.le_of_ble_eq_true rfl) ?_
  intro p e s m below meth c C hnt ls hl H locs hw
  have hl : lv_has ls 4 [(0, .ref (K 7 0)), (1, .int x), (2, .int pr), (3, .int q)] := hl
  refine lv_aload_n C.1 C.2.1 dX11_takeSell_0 rfl (lv_at hl 0 rfl) ?_
  refine lv_iconst (v := 0) C.1 C.2.1 dX11_takeSell_1 (by decide) ?_
  refine lv_iload_n C.1 C.2.1 dX11_takeSell_2 rfl (lv_at hl 1 rfl) ?_
  refine lv_iload_n C.1 C.2.1 dX11_takeSell_3 rfl (lv_at hl 2 rfl) ?_
  refine lv_iload_n C.1 C.2.1 dX11_takeSell_4 rfl (lv_at hl 3 rfl) ?_
  refine x_vi C hw (x11_takeAtOnce hF (K := K) (S := S) (r := r) (V := V) (nw := nw) (dp := dp) (F := F) (X := X) ok hn8 hd8 hb false x pr q) ml_X11_91 yf_X11_takeAtOnce 19 rfl rfl (As := [.int 0, .int x, .int pr, .int q]) rfl rfl ⟨(Nat.le_of_ble_eq_true rfl), (Nat.le_of_ble_eq_true rfl)⟩ ⟨(Nat.le_of_ble_eq_true rfl), (Nat.le_of_ble_eq_true rfl)⟩ hl.1 (Nat.le_of_ble_eq_true rfl) dX11_takeSell_5 hnt (fun k hk => ⟨hk, rfl⟩) (Nat.le_of_ble_eq_true rfl) (Nat.le_of_ble_eq_true rfl) (fun r_5 u_5 H locs hp_5 hw => ?_)
  replace hw : WH G s (stW G (K 0) ((tkS S false x pr q).1) ++ (dmO G K F ++ (hiW G (K 3) r (va_up V (rgN nw) S) (nI (rgN nw)) (nI (min (dp + 1) 8)) ++ X))) H locs := hw
  refine vx_ret ?_
  exact r_iret C hw rfl rfl () (hp_5) rfl (Nat.le_of_ble_eq_true rfl) (Nat.le_of_ble_eq_true rfl) dX11_takeSell_8

set_option maxHeartbeats 4000000 in
set_option maxRecDepth 100000 in
theorem x11_undo {l : Launch} {G : Gx} (hF : SF l G) {K : Nat → Nat → Nat} {S : SV} {r : Nat → Nat → Nat} {V : Nat → SV} {nw dp : Nat} {F : Nat → Int32} {X : va_W} (hn8 : nw < 8) (hd8 : dp ≤ 8) (hb : dp ≠ 0 → isB ((V nw).1 2)) : XI l G yX11_undo cX11_undo 1 .int 6 1 6 [.ref (K 7 0)] (stW G (K 0) S ++ (dmO G K F ++ (hiW G (K 3) r V (nI nw) (nI dp) ++ X))) (fun r _ => dp ≠ 0 ∧ r = nI (dp - 1)) (fun _ : Unit => stW G (K 0) (V nw) ++ (dmO G K F ++ (hiW G (K 3) r V (nI (rgP nw)) (nI (dp - 1)) ++ X))) (fun k => k = 3 ∧ dp = 0) (fun _ => stW G (K 0) S ++ (dmO G K F ++ (hiW G (K 3) r V (nI nw) (nI dp) ++ X))) := by
  refine mx_of hF (by decide) (Nat.le_of_ble_eq_true rfl) ?_
  intro p e s m below meth c C hnt ls hl H locs hw
  have hl : lv_has ls 1 [(0, .ref (K 7 0))] := hl
  refine lv_aload_n C.1 C.2.1 dX11_undo_0 rfl (lv_at hl 0 rfl) ?_
  refine r_get C hw 19 rfl rfl in_X11 3 (by decide) fl_X11_25 rfl (v := .ref (K 3 0)) rfl dX11_undo_1 ?_
  refine r_get C hw 20 rfl rfl in_X4 2 (by decide) fl_X11_349 rfl (v := .int (nI dp)) rfl dX11_undo_4 ?_
  refine lv_if_ne (tgt := 21) C.1 C.2.1 dX11_undo_7 (by decide) (fun c_7 => ?_) (fun c_7 => ?_)
  · have hd0 : dp ≠ 0 := fun h0 => c_7 (by rw [h0]; rfl)
    refine lv_aload_n C.1 C.2.1 dX11_undo_21 rfl (lv_at hl 0 rfl) ?_
    refine r_get C hw 19 rfl rfl in_X11 3 (by decide) fl_X11_25 rfl (v := .ref (K 3 0)) rfl dX11_undo_22 ?_
    refine lv_aload_n C.1 C.2.1 dX11_undo_25 rfl (lv_at hl 0 rfl) ?_
    refine r_get C hw 19 rfl rfl in_X11 0 (by decide) fl_X11_10 rfl (v := .ref (K 0 0)) rfl dX11_undo_26 ?_
    replace hw : WH G s (stW G (K 0) S ++ (hiW G (K 3) r V (nI nw) (nI dp) ++ (dmO G K F ++ X))) H locs := hw.perm ((List.perm_append_comm_assoc _ _ _).append_left _)
    refine r_vv C hw (k4_popInto hF (a := K 0) (S := S) (h := K 3) (r := r) (V := V) (nw := nw) (dp := dp) (X := (dmO G K F ++ X)) hn8 ⟨Nat.pos_of_ne_zero hd0, hd8⟩ (hb hd0)) ml_X11_354 yf_X4_popInto 19 rfl rfl (As := [.ref (K 0 0)]) rfl rfl ⟨(Nat.le_of_ble_eq_true rfl), (Nat.le_of_ble_eq_true rfl)⟩ ⟨(Nat.le_of_ble_eq_true rfl), (Nat.le_of_ble_eq_true rfl)⟩ hl.1 (Nat.le_of_ble_eq_true rfl) dX11_undo_29 (fun _ H locs hp_29 hw => ?_)
    replace hw : WH G s (stW G (K 0) (V nw) ++ (hiW G (K 3) r V (nI (rgP nw)) (nI (dp - 1)) ++ (dmO G K F ++ X))) H locs := hw
    replace hw : WH G s (stW G (K 0) (V nw) ++ (dmO G K F ++ (hiW G (K 3) r V (nI (rgP nw)) (nI (dp - 1)) ++ X))) H locs := hw.perm ((List.perm_append_comm_assoc _ _ _).append_left _)
    refine lv_aload_n C.1 C.2.1 dX11_undo_32 rfl (lv_at hl 0 rfl) ?_
    refine r_get C hw 19 rfl rfl in_X11 3 (by decide) fl_X11_25 rfl (v := .ref (K 3 0)) rfl dX11_undo_33 ?_
    refine r_get C hw 20 rfl rfl in_X4 2 (by decide) fl_X11_349 rfl (v := .int (nI (dp - 1))) rfl dX11_undo_36 ?_
    refine vx_ret ?_
    exact r_iret C hw rfl rfl () (⟨hd0, rfl⟩) rfl (Nat.le_of_ble_eq_true rfl) (Nat.le_of_ble_eq_true rfl) dX11_undo_39
  · exact x_thr3W C hw (sr_352 hF) (⟨rfl, (nI_eq (a := dp) (b := 0) (by omega) (by decide)).mp c_7⟩) rfl hnt hl.1 dX11_undo_10 dX11_undo_13 dX11_undo_14 dX11_undo_17 dX11_undo_20 (Nat.le_of_ble_eq_true rfl) (Nat.le_of_ble_eq_true rfl) (Nat.le_of_ble_eq_true rfl) (Nat.le_of_ble_eq_true rfl) (Nat.le_of_ble_eq_true rfl) (Nat.le_of_ble_eq_true rfl)

