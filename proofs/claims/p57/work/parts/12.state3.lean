set_option maxHeartbeats 4000000 in
set_option maxRecDepth 100000 in
theorem k9_place {l : Launch} {G : Gx} (hF : SF l G) {a : Nat → Nat} {S : SV} {X : va_W} (ok : okS S) (hn : nO S < 20) (b : Bool) (st pr q mi : Int32) : MI l G yX9_place cX9_place 8 .int 4 0 0 [.ref (a 0), .int (bI b), .int st, .int pr, .int q, .int mi] (stW G a S ++ X) (fun r _ => r = S.1 4) (fun _ : Unit => stW G a (plS S b st pr q mi) ++ X) := by
  refine mt_of hF (by decide) (Nat.le_of_ble_eq_true rfl) ?_
  intro p e s m below meth c C hin ls hl H locs hw
  have hl : lv_has ls 8 [(0, .ref (a 0)), (1, .int (bI b)), (2, .int st), (3, .int pr), (4, .int q), (5, .int mi)] := hl
  refine lv_aload_n C.1 C.2.1 dX9_place_0 rfl (lv_at hl 0 rfl) ?_
  refine r_get C hw 0 rfl rfl in_X9 4 (by decide) fl_X9_33 rfl (v := .int (S.1 4)) rfl dX9_place_1 ?_
  refine lv_istore (lv' := [(6, .int (S.1 4)), (0, .ref (a 0)), (1, .int (bI b)), (2, .int st), (3, .int pr), (4, .int q), (5, .int mi)]) C.1 C.2.1 dX9_place_4 hl (by decide) rfl (fun ls hl => ?_)
  refine lv_aload_n C.1 C.2.1 dX9_place_6 rfl (lv_at hl 1 rfl) ?_
  refine lv_dup C.1 C.2.1 dX9_place_7 rfl ?_
  refine r_get C hw 0 rfl rfl in_X9 4 (by decide) fl_X9_33 rfl (v := .int (S.1 4)) rfl dX9_place_8 ?_
  refine lv_iconst (v := 1) C.1 C.2.1 dX9_place_11 (by decide) ?_
  refine lv_iadd C.1 C.2.1 dX9_place_12 ?_
  refine r_put C hw 0 rfl rfl in_X9 tyX9 tyX9_ok nmX9 4 (by decide) fl_X9_33 rfl rfl rfl rfl (Nat.le_of_ble_eq_true rfl) (w' := stW G a (sI S 4 ((S.1 4) + 1)) ++ X) rfl dX9_place_13 (fun H locs hw => ?_)
  refine lv_aload_n C.1 C.2.1 dX9_place_16 rfl (lv_at hl 1 rfl) ?_
  refine r_get C hw 0 rfl rfl in_X9 2 (by decide) fl_X9_25 rfl (v := .int (S.1 2)) rfl dX9_place_17 ?_
  refine lv_if_eq (tgt := 28) C.1 C.2.1 dX9_place_20 (by decide) (fun c_20 => ?_) (fun c_20 => ?_)
  · refine lv_iload C.1 C.2.1 dX9_place_28 (lv_at hl 5 rfl) ?_
    refine lv_aload_n C.1 C.2.1 dX9_place_30 rfl (lv_at hl 1 rfl) ?_
    refine lv_iload_n C.1 C.2.1 dX9_place_31 rfl (lv_at hl 2 rfl) ?_
    refine lv_iload_n C.1 C.2.1 dX9_place_32 rfl (lv_at hl 3 rfl) ?_
    refine lv_iload_n C.1 C.2.1 dX9_place_33 rfl (lv_at hl 4 rfl) ?_
    refine lv_iload C.1 C.2.1 dX9_place_34 (lv_at hl 5 rfl) ?_
    refine r_vi C hw (k9_tradeNew hF (a := a) (S := (sI S 4 ((S.1 4) + 1))) (X := X) (show okS (sI S 4 ((S.1 4) + 1)) from ok) b st pr q) ml_X9_113 yf_X9_tradeNew 0 rfl rfl (As := [.int (bI b), .int st, .int pr, .int q]) rfl rfl ⟨Nat.le_of_ble_eq_true rfl, Nat.le_of_ble_eq_true rfl⟩ ⟨Nat.le_of_ble_eq_true rfl, Nat.le_of_ble_eq_true rfl⟩ hl.1 (Nat.le_of_ble_eq_true rfl) dX9_place_36 (fun r_36 _ H locs hp_36 hw => ?_)
    obtain rfl : r_36 = q - (tnR b st pr 20 (sI S 4 ((S.1 4) + 1)) q).2 := hp_36
    replace hw : WH G s (stW G a (tnR b st pr 20 (sI S 4 ((S.1 4) + 1)) q).1 ++ X) H locs := hw
    have hy := okS_tnR (b := b) (st := st) (pr := pr) 20 (S := sI S 4 (S.1 4 + 1)) (x := q) (show okS (sI S 4 (S.1 4 + 1)) from ok)
    have hz : okS (tnR b st pr 20 (sI S 4 ((S.1 4) + 1)) q).1 ∧ nO (tnR b st pr 20 (sI S 4 ((S.1 4) + 1)) q).1 < 20 := ⟨hy.1, Nat.lt_of_le_of_lt hy.2 (show nO (sI S 4 (S.1 4 + 1)) < 20 from hn)⟩
    refine lv_isub C.1 C.2.1 dX9_place_39 ?_
    refine lv_istore (lv' := [(7, .int (q - (q - (tnR b st pr 20 (sI S 4 ((S.1 4) + 1)) q).2))), (6, .int (S.1 4)), (0, .ref (a 0)), (1, .int (bI b)), (2, .int st), (3, .int pr), (4, .int q), (5, .int mi)]) C.1 C.2.1 dX9_place_40 hl (by decide) rfl (fun ls hl => ?_)
    refine lv_iload C.1 C.2.1 dX9_place_42 (lv_at hl 0 rfl) ?_
    refine lv_if_le (tgt := 63) C.1 C.2.1 dX9_place_44 (by decide) (fun c_44 => ?_) (fun c_44 => ?_)
    · refine lv_iload C.1 C.2.1 dX9_place_63 (lv_at hl 1 rfl) ?_
      have hl2 : plL S b st pr q = ((tnR b st pr 20 (sI S 4 (S.1 4 + 1)) q).1, q - (q - (tnR b st pr 20 (sI S 4 (S.1 4 + 1)) q).2)) := if_pos c_20
      exact r_iret C hw rfl rfl () (rfl) (by rw [plS, hl2, if_pos c_44]) (Nat.le_of_ble_eq_true rfl) (Nat.le_of_ble_eq_true rfl) dX9_place_65
    · refine lv_aload_n C.1 C.2.1 dX9_place_47 rfl (lv_at hl 2 rfl) ?_
      refine r_get C hw 0 rfl rfl in_X9 1 (by decide) fl_X9_21 rfl (v := .ref (a 6)) rfl dX9_place_48 ?_
      refine lv_iload C.1 C.2.1 dX9_place_51 (lv_at hl 1 rfl) ?_
      refine lv_iload_n C.1 C.2.1 dX9_place_53 rfl (lv_at hl 4 rfl) ?_
      refine lv_iload_n C.1 C.2.1 dX9_place_54 rfl (lv_at hl 3 rfl) ?_
      refine lv_iload_n C.1 C.2.1 dX9_place_55 rfl (lv_at hl 5 rfl) ?_
      refine lv_iload C.1 C.2.1 dX9_place_56 (lv_at hl 0 rfl) ?_
      refine lv_iload C.1 C.2.1 dX9_place_58 (lv_at hl 7 rfl) ?_
      refine r_vv C hw (k1_enter hF (a := a) (S := (tnR b st pr 20 (sI S 4 ((S.1 4) + 1)) q).1) (X := X) (n := (nO (tnR b st pr 20 (sI S 4 ((S.1 4) + 1)) q).1)) hz.1.1 hz.2 (S.1 4) st b pr (q - (q - (tnR b st pr 20 (sI S 4 ((S.1 4) + 1)) q).2)) mi) ml_X9_117 yf_X1_enter 6 rfl rfl (As := [.int (S.1 4), .int st, .int (bI b), .int pr, .int (q - (q - (tnR b st pr 20 (sI S 4 ((S.1 4) + 1)) q).2)), .int mi]) rfl rfl ⟨Nat.le_of_ble_eq_true rfl, Nat.le_of_ble_eq_true rfl⟩ ⟨Nat.le_of_ble_eq_true rfl, Nat.le_of_ble_eq_true rfl⟩ hl.1 (Nat.le_of_ble_eq_true rfl) dX9_place_60 (fun _ H locs hp_60 hw => ?_)
      replace hw : WH G s (stW G a (enS (tnR b st pr 20 (sI S 4 ((S.1 4) + 1)) q).1 (nO (tnR b st pr 20 (sI S 4 ((S.1 4) + 1)) q).1) (S.1 4) st b pr (q - (q - (tnR b st pr 20 (sI S 4 ((S.1 4) + 1)) q).2)) mi) ++ X) H locs := hw
      refine lv_iload C.1 C.2.1 dX9_place_63 (lv_at hl 1 rfl) ?_
      have hl2 : plL S b st pr q = ((tnR b st pr 20 (sI S 4 (S.1 4 + 1)) q).1, q - (q - (tnR b st pr 20 (sI S 4 (S.1 4 + 1)) q).2)) := if_pos c_20
      exact r_iret C hw rfl rfl () (rfl) (by rw [plS, hl2, if_neg c_44]) (Nat.le_of_ble_eq_true rfl) (Nat.le_of_ble_eq_true rfl) dX9_place_65
  · have hz : okS (sI S 4 ((S.1 4) + 1)) ∧ nO (sI S 4 ((S.1 4) + 1)) < 20 := ⟨ok, hn⟩
    refine lv_iload C.1 C.2.1 dX9_place_23 (lv_at hl 5 rfl) ?_
    refine lv_goto (tgt := 40) C.1 C.2.1 dX9_place_25 (by decide) ?_
    refine lv_istore (lv' := [(7, .int q), (6, .int (S.1 4)), (0, .ref (a 0)), (1, .int (bI b)), (2, .int st), (3, .int pr), (4, .int q), (5, .int mi)]) C.1 C.2.1 dX9_place_40 hl (by decide) rfl (fun ls hl => ?_)
    refine lv_iload C.1 C.2.1 dX9_place_42 (lv_at hl 0 rfl) ?_
    refine lv_if_le (tgt := 63) C.1 C.2.1 dX9_place_44 (by decide) (fun c_44 => ?_) (fun c_44 => ?_)
    · refine lv_iload C.1 C.2.1 dX9_place_63 (lv_at hl 1 rfl) ?_
      have hl2 : plL S b st pr q = (sI S 4 (S.1 4 + 1), q) := if_neg c_20
      exact r_iret C hw rfl rfl () (rfl) (by rw [plS, hl2, if_pos c_44]) (Nat.le_of_ble_eq_true rfl) (Nat.le_of_ble_eq_true rfl) dX9_place_65
    · refine lv_aload_n C.1 C.2.1 dX9_place_47 rfl (lv_at hl 2 rfl) ?_
      refine r_get C hw 0 rfl rfl in_X9 1 (by decide) fl_X9_21 rfl (v := .ref (a 6)) rfl dX9_place_48 ?_
      refine lv_iload C.1 C.2.1 dX9_place_51 (lv_at hl 1 rfl) ?_
      refine lv_iload_n C.1 C.2.1 dX9_place_53 rfl (lv_at hl 4 rfl) ?_
      refine lv_iload_n C.1 C.2.1 dX9_place_54 rfl (lv_at hl 3 rfl) ?_
      refine lv_iload_n C.1 C.2.1 dX9_place_55 rfl (lv_at hl 5 rfl) ?_
      refine lv_iload C.1 C.2.1 dX9_place_56 (lv_at hl 0 rfl) ?_
      refine lv_iload C.1 C.2.1 dX9_place_58 (lv_at hl 7 rfl) ?_
      refine r_vv C hw (k1_enter hF (a := a) (S := (sI S 4 ((S.1 4) + 1))) (X := X) (n := (nO (sI S 4 ((S.1 4) + 1)))) hz.1.1 hz.2 (S.1 4) st b pr q mi) ml_X9_117 yf_X1_enter 6 rfl rfl (As := [.int (S.1 4), .int st, .int (bI b), .int pr, .int q, .int mi]) rfl rfl ⟨Nat.le_of_ble_eq_true rfl, Nat.le_of_ble_eq_true rfl⟩ ⟨Nat.le_of_ble_eq_true rfl, Nat.le_of_ble_eq_true rfl⟩ hl.1 (Nat.le_of_ble_eq_true rfl) dX9_place_60 (fun _ H locs hp_60 hw => ?_)
      replace hw : WH G s (stW G a (enS (sI S 4 ((S.1 4) + 1)) (nO (sI S 4 ((S.1 4) + 1))) (S.1 4) st b pr q mi) ++ X) H locs := hw
      refine lv_iload C.1 C.2.1 dX9_place_63 (lv_at hl 1 rfl) ?_
      have hl2 : plL S b st pr q = (sI S 4 (S.1 4 + 1), q) := if_neg c_20
      exact r_iret C hw rfl rfl () (rfl) (by rw [plS, hl2, if_neg c_44]) (Nat.le_of_ble_eq_true rfl) (Nat.le_of_ble_eq_true rfl) dX9_place_65

set_option maxHeartbeats 4000000 in
set_option maxRecDepth 100000 in
theorem k9_take {l : Launch} {G : Gx} (hF : SF l G) {a : Nat → Nat} {S : SV} {X : va_W} (ok : okS S) (b : Bool) (st pr q : Int32) : MI l G yX9_take cX9_take 5 .int 4 0 0 [.ref (a 0), .int (bI b), .int st, .int pr, .int q] (stW G a S ++ X) (fun r _ => r = q - (tkS S b st pr q).2) (fun _ : Unit => stW G a (tkS S b st pr q).1 ++ X) := by
  refine mt_of hF (by decide) (Nat.le_of_ble_eq_true rfl) ?_
  intro p e s m below meth c C hin ls hl H locs hw
  have hl : lv_has ls 5 [(0, .ref (a 0)), (1, .int (bI b)), (2, .int st), (3, .int pr), (4, .int q)] := hl
  refine lv_aload_n C.1 C.2.1 dX9_take_0 rfl (lv_at hl 0 rfl) ?_
  refine lv_dup C.1 C.2.1 dX9_take_1 rfl ?_
  refine r_get C hw 0 rfl rfl in_X9 4 (by decide) fl_X9_33 rfl (v := .int (S.1 4)) rfl dX9_take_2 ?_
  refine lv_iconst (v := 1) C.1 C.2.1 dX9_take_5 (by decide) ?_
  refine lv_iadd C.1 C.2.1 dX9_take_6 ?_
  refine r_put C hw 0 rfl rfl in_X9 tyX9 tyX9_ok nmX9 4 (by decide) fl_X9_33 rfl rfl rfl rfl (Nat.le_of_ble_eq_true rfl) (w' := stW G a (sI S 4 ((S.1 4) + 1)) ++ X) rfl dX9_take_7 (fun H locs hw => ?_)
  refine lv_aload_n C.1 C.2.1 dX9_take_10 rfl (lv_at hl 0 rfl) ?_
  refine lv_iload_n C.1 C.2.1 dX9_take_11 rfl (lv_at hl 1 rfl) ?_
  refine lv_iload_n C.1 C.2.1 dX9_take_12 rfl (lv_at hl 2 rfl) ?_
  refine lv_iload_n C.1 C.2.1 dX9_take_13 rfl (lv_at hl 3 rfl) ?_
  refine lv_iload C.1 C.2.1 dX9_take_14 (lv_at hl 4 rfl) ?_
  refine r_vi C hw (k9_tradeNew hF (a := a) (S := (sI S 4 ((S.1 4) + 1))) (X := X) (show okS (sI S 4 ((S.1 4) + 1)) from ok) b st pr q) ml_X9_113 yf_X9_tradeNew 0 rfl rfl (As := [.int (bI b), .int st, .int pr, .int q]) rfl rfl ⟨Nat.le_of_ble_eq_true rfl, Nat.le_of_ble_eq_true rfl⟩ ⟨Nat.le_of_ble_eq_true rfl, Nat.le_of_ble_eq_true rfl⟩ hl.1 (Nat.le_of_ble_eq_true rfl) dX9_take_16 (fun r_16 _ H locs hp_16 hw => ?_)
  obtain rfl : r_16 = q - (tnR b st pr 20 (sI S 4 ((S.1 4) + 1)) q).2 := hp_16
  replace hw : WH G s (stW G a (tnR b st pr 20 (sI S 4 ((S.1 4) + 1)) q).1 ++ X) H locs := hw
  exact r_iret C hw rfl rfl () (rfl) rfl (Nat.le_of_ble_eq_true rfl) (Nat.le_of_ble_eq_true rfl) dX9_take_19

set_option maxHeartbeats 4000000 in
set_option maxRecDepth 100000 in
theorem k9_withdraw {l : Launch} {G : Gx} (hF : SF l G) {a : Nat → Nat} {S : SV} {X : va_W} (ok : okS S) {x : Int32} {j : Nat} (hs : slotF S x (nO S) = some j) : MI l G yX9_withdraw cX9_withdraw 4 .int 3 0 0 [.ref (a 0), .int x] (stW G a S ++ X) (fun r _ => r = S.2.1 6 j) (fun _ : Unit => stW G a (rmS S (nO S) j) ++ X) := by
  refine mt_of hF (by decide) (Nat.le_of_ble_eq_true rfl) ?_
  intro p e s m below meth c C hin ls hl H locs hw
  have hl : lv_has ls 4 [(0, .ref (a 0)), (1, .int x)] := hl
  refine lv_aload_n C.1 C.2.1 dX9_withdraw_0 rfl (lv_at hl 0 rfl) ?_
  refine r_get C hw 0 rfl rfl in_X9 1 (by decide) fl_X9_21 rfl (v := .ref (a 6)) rfl dX9_withdraw_1 ?_
  refine lv_iload_n C.1 C.2.1 dX9_withdraw_4 rfl (lv_at hl 1 rfl) ?_
  refine r_vi C hw (k1_slotOf hF (a := a) (S := S) (X := X) (n := nO S) ok.1 ok.2.1 x) ml_X9_86 yf_X1_slotOf 6 rfl rfl (As := [.int x]) rfl rfl ⟨Nat.le_of_ble_eq_true rfl, Nat.le_of_ble_eq_true rfl⟩ ⟨Nat.le_of_ble_eq_true rfl, Nat.le_of_ble_eq_true rfl⟩ hl.1 (Nat.le_of_ble_eq_true rfl) dX9_withdraw_5 (fun r_5 _ H locs hp_5 hw => ?_)
  obtain rfl : r_5 = nI j := by rw [hp_5, hs]; rfl
  replace hw : WH G s (stW G a S ++ X) H locs := hw
  have hj : j < nO S := (fnd_lt hs).1
  have h20 := ok.2.1
  refine lv_istore_n (lv' := [(2, .int (nI j)), (0, .ref (a 0)), (1, .int x)]) C.1 C.2.1 dX9_withdraw_8 rfl hl (by decide) rfl (fun ls hl => ?_)
  refine lv_aload_n C.1 C.2.1 dX9_withdraw_9 rfl (lv_at hl 1 rfl) ?_
  refine r_get C hw 0 rfl rfl in_X9 1 (by decide) fl_X9_21 rfl (v := .ref (a 6)) rfl dX9_withdraw_10 ?_
  refine r_get C hw 6 rfl rfl in_X1 4 (by decide) fl_X9_128 rfl (v := .ref (a 15)) rfl dX9_withdraw_13 ?_
  refine lv_iload_n C.1 C.2.1 dX9_withdraw_16 rfl (lv_at hl 0 rfl) ?_
  refine r_vi C hw (k7_get hF (strow_6 G a S X) (by decide) (strow_e G a S X 6) (nI j)) ml_X9_96 yf_X7_get 15 rfl rfl (As := [.int (nI j)]) rfl rfl ⟨Nat.le_of_ble_eq_true rfl, Nat.le_of_ble_eq_true rfl⟩ ⟨Nat.le_of_ble_eq_true rfl, Nat.le_of_ble_eq_true rfl⟩ hl.1 (Nat.le_of_ble_eq_true rfl) dX9_withdraw_17 (fun r_17 _ H locs hp_17 hw => ?_)
  obtain rfl : r_17 = ((S.2.1 6) j) := by rw [hp_17]; exact rget_nI (by omega) (by decide)
  replace hw : WH G s (stW G a S ++ X) H locs := hw
  refine lv_istore_n (lv' := [(3, .int ((S.2.1 6) j)), (2, .int (nI j)), (0, .ref (a 0)), (1, .int x)]) C.1 C.2.1 dX9_withdraw_20 rfl hl (by decide) rfl (fun ls hl => ?_)
  refine lv_aload_n C.1 C.2.1 dX9_withdraw_21 rfl (lv_at hl 2 rfl) ?_
  refine r_get C hw 0 rfl rfl in_X9 1 (by decide) fl_X9_21 rfl (v := .ref (a 6)) rfl dX9_withdraw_22 ?_
  refine lv_iload_n C.1 C.2.1 dX9_withdraw_25 rfl (lv_at hl 1 rfl) ?_
  refine r_vv C hw (k1_remove hF (a := a) (S := S) (X := X) (n := (nO S)) ok.1 ok.2.1 (j := j) hj) ml_X9_150 yf_X1_remove 6 rfl rfl (As := [.int (nI j)]) rfl rfl ⟨Nat.le_of_ble_eq_true rfl, Nat.le_of_ble_eq_true rfl⟩ ⟨Nat.le_of_ble_eq_true rfl, Nat.le_of_ble_eq_true rfl⟩ hl.1 (Nat.le_of_ble_eq_true rfl) dX9_withdraw_26 (fun _ H locs hp_26 hw => ?_)
  replace hw : WH G s (stW G a (rmS S (nO S) j) ++ X) H locs := hw
  refine lv_iload_n C.1 C.2.1 dX9_withdraw_29 rfl (lv_at hl 0 rfl) ?_
  exact r_iret C hw rfl rfl () (rfl) rfl (Nat.le_of_ble_eq_true rfl) (Nat.le_of_ble_eq_true rfl) dX9_withdraw_30

set_option maxHeartbeats 4000000 in
set_option maxRecDepth 100000 in
theorem k9_startPool {l : Launch} {G : Gx} (hF : SF l G) {a : Nat → Nat} {S : SV} {X : va_W} : MI l G yX9_startPool cX9_startPool 1 .int 0 0 0 [.ref (a 0)] (stW G a S ++ X) (fun r _ => r = S.1 1) (fun _ : Unit => stW G a (sI S 2 1) ++ X) := by
  refine mt_of hF (by decide) (Nat.le_of_ble_eq_true rfl) ?_
  intro p e s m below meth c C hin ls hl H locs hw
  have hl : lv_has ls 1 [(0, .ref (a 0))] := hl
  refine lv_aload_n C.1 C.2.1 dX9_startPool_0 rfl (lv_at hl 0 rfl) ?_
  refine lv_iconst (v := 1) C.1 C.2.1 dX9_startPool_1 (by decide) ?_
  refine r_put C hw 0 rfl rfl in_X9 tyX9 tyX9_ok nmX9 2 (by decide) fl_X9_25 rfl rfl rfl rfl (Nat.le_of_ble_eq_true rfl) (w' := stW G a (sI S 2 1) ++ X) rfl dX9_startPool_2 (fun H locs hw => ?_)
  refine lv_aload_n C.1 C.2.1 dX9_startPool_5 rfl (lv_at hl 0 rfl) ?_
  refine r_get C hw 0 rfl rfl in_X9 1 (by decide) fl_X9_21 rfl (v := .ref (a 6)) rfl dX9_startPool_6 ?_
  refine r_get C hw 6 rfl rfl in_X1 6 (by decide) fl_X9_154 rfl (v := .int (S.1 1)) rfl dX9_startPool_9 ?_
  exact r_iret C hw rfl rfl () (rfl) rfl (Nat.le_of_ble_eq_true rfl) (Nat.le_of_ble_eq_true rfl) dX9_startPool_12

set_option maxHeartbeats 4000000 in
set_option maxRecDepth 100000 in
theorem k9_letPass {l : Launch} {G : Gx} (hF : SF l G) {a : Nat → Nat} {S : SV} {X : va_W} (ok : okS S) (mi : Int32) : MI l G yX9_letPass cX9_letPass 5 .int 3 0 0 [.ref (a 0), .int mi] (stW G a S ++ X) (fun r _ => r = (lpS S mi).2) (fun _ : Unit => stW G a (lpS S mi).1 ++ X) := by
  refine mt_of hF (by decide) (Nat.le_of_ble_eq_true rfl) ?_
  intro p e s m below meth c C hin ls hl H locs hw
  have hl : lv_has ls 5 [(0, .ref (a 0)), (1, .int mi)] := hl
  refine lv_iconst (v := 0) C.1 C.2.1 dX9_letPass_0 (by decide) ?_
  refine lv_istore_n (lv' := [(2, .int 0), (0, .ref (a 0)), (1, .int mi)]) C.1 C.2.1 dX9_letPass_1 rfl hl (by decide) rfl (fun ls hl => ?_)
  refine lv_aload_n C.1 C.2.1 dX9_letPass_2 rfl (lv_at hl 1 rfl) ?_
  refine lv_dup C.1 C.2.1 dX9_letPass_3 rfl ?_
  refine r_get C hw 0 rfl rfl in_X9 3 (by decide) fl_X9_29 rfl (v := .int (S.1 3)) rfl dX9_letPass_4 ?_
  refine lv_iload_n C.1 C.2.1 dX9_letPass_7 rfl (lv_at hl 2 rfl) ?_
  refine lv_iadd C.1 C.2.1 dX9_letPass_8 ?_
  refine r_put C hw 0 rfl rfl in_X9 tyX9 tyX9_ok nmX9 3 (by decide) fl_X9_29 rfl rfl rfl rfl (Nat.le_of_ble_eq_true rfl) (w' := stW G a (sI S 3 ((S.1 3) + mi)) ++ X) rfl dX9_letPass_9 (fun H locs hw => ?_)
  refine lv_aload_n C.1 C.2.1 dX9_letPass_12 rfl (lv_at hl 1 rfl) ?_
  refine r_get C hw 0 rfl rfl in_X9 1 (by decide) fl_X9_21 rfl (v := .ref (a 6)) rfl dX9_letPass_13 ?_
  refine r_get C hw 6 rfl rfl in_X1 6 (by decide) fl_X9_154 rfl (v := .int (S.1 1)) rfl dX9_letPass_16 ?_
  refine r_toe (show _ = nI (nO S) from ok.1) ?_
  refine lv_iconst (v := 1) C.1 C.2.1 dX9_letPass_19 (by decide) ?_
  refine lv_isub C.1 C.2.1 dX9_letPass_20 ?_
  refine lv_istore_n (lv' := [(3, .int ((nI (nO S)) - 1)), (2, .int 0), (0, .ref (a 0)), (1, .int mi)]) C.1 C.2.1 dX9_letPass_21 rfl hl (by decide) rfl (fun ls hl => ?_)
  refine w_loop (σ := Nat × SV × Int32) G (fun u ⟨k, T, x⟩ => k < u ∧ okS T ∧ k ≤ nO T ∧ lpS S mi = lpR mi k T x) (fun ⟨k, T, x⟩ => stW G a T ++ X) (fun ⟨k, T, x⟩ => 0) (fun ⟨k, T, x⟩ => 0) (fun ⟨k, T, x⟩ => [(0, .ref (a 0)), (1, .int mi), (2, .int x), (3, .int (nI k - 1))]) 5 ?_ ?_ (nO S + 1) (nO S, sI S 3 (S.1 3 + mi), 0) (⟨Nat.lt_succ_self _, ok, Nat.le_refl _, rfl⟩) hw (lv_sub hl [2, 3, 1, 0] rfl)
  · rintro n22 ⟨k, T, x⟩ ⟨h1, h2, h3, h4⟩ ih22 H locs hw ls hl
    replace hw : WH G s (stW G a T ++ X) H locs := hw
    replace hl : lv_has ls 5 [(0, .ref (a 0)), (1, .int mi), (2, .int x), (3, .int (nI k - 1))] := hl
    have hT20 : nO T ≤ 20 := h2.2.1
    refine lv_iload_n C.1 C.2.1 dX9_letPass_22 rfl (lv_at hl 3 rfl) ?_
    refine lv_if_lt (tgt := 85) C.1 C.2.1 dX9_letPass_23 (by decide) (fun c_23 => ?_) (fun c_23 => ?_)
    · obtain rfl : k = 0 := by rcases k with _ | k; rfl; exact absurd c_23 (by rw [nI_pred]; exact nI_pos (by omega))
      refine lv_iload_n C.1 C.2.1 dX9_letPass_85 rfl (lv_at hl 2 rfl) ?_
      exact r_iret C hw rfl rfl () (by rw [h4]; rfl) (by rw [h4]; rfl) (Nat.le_of_ble_eq_true rfl) (Nat.le_of_ble_eq_true rfl) dX9_letPass_86
    · obtain ⟨i, rfl⟩ : ∃ i, k = i + 1 := by rcases k with _ | k; exact absurd (show nI 0 - 1 < 0 by decide) c_23; exact ⟨k, rfl⟩
      replace hl : lv_has ls 5 [(0, .ref (a 0)), (1, .int mi), (2, .int x), (3, .int (nI i))] := hl.to_eq (by rw [nI_pred])
      refine lv_aload_n C.1 C.2.1 dX9_letPass_26 rfl (lv_at hl 0 rfl) ?_
      refine r_get C hw 0 rfl rfl in_X9 1 (by decide) fl_X9_21 rfl (v := .ref (a 6)) rfl dX9_letPass_27 ?_
      refine r_get C hw 6 rfl rfl in_X1 5 (by decide) fl_X9_155 rfl (v := .ref (a 17)) rfl dX9_letPass_30 ?_
      refine lv_iload_n C.1 C.2.1 dX9_letPass_33 rfl (lv_at hl 3 rfl) ?_
      refine r_vi C hw (k7_get hF (strow_7 G a T X) (by decide) (strow_e G a T X 7) (nI i)) ml_X9_96 yf_X7_get 17 rfl rfl (As := [.int (nI i)]) rfl rfl ⟨Nat.le_of_ble_eq_true rfl, Nat.le_of_ble_eq_true rfl⟩ ⟨Nat.le_of_ble_eq_true rfl, Nat.le_of_ble_eq_true rfl⟩ hl.1 (Nat.le_of_ble_eq_true rfl) dX9_letPass_34 (fun r_34 _ H locs hp_34 hw => ?_)
      obtain rfl : r_34 = ((T.2.1 7) i) := by rw [hp_34]; exact rget_nI (by omega) (by decide)
      replace hw : WH G s (stW G a T ++ X) H locs := hw
      refine lv_istore (lv' := [(4, .int ((T.2.1 7) i)), (0, .ref (a 0)), (1, .int mi), (2, .int x), (3, .int (nI i))]) C.1 C.2.1 dX9_letPass_37 hl (by decide) rfl (fun ls hl => ?_)
      refine lv_iload C.1 C.2.1 dX9_letPass_39 (lv_at hl 0 rfl) ?_
      refine lv_iload_n C.1 C.2.1 dX9_letPass_41 rfl (lv_at hl 2 rfl) ?_
      refine lv_icmp_le (tgt := 63) C.1 C.2.1 dX9_letPass_42 (by decide) (fun c_42 => ?_) (fun c_42 => ?_)
      · have c_42 : ¬ mi < T.2.1 7 i := fun h => by rw [Int32.le_iff_toInt_le] at c_42; rw [Int32.lt_iff_toInt_lt] at h; omega
        refine lv_iload C.1 C.2.1 dX9_letPass_63 (lv_at hl 0 rfl) ?_
        refine lv_if_eq (tgt := 79) C.1 C.2.1 dX9_letPass_65 (by decide) (fun c_65 => ?_) (fun c_65 => ?_)
        · refine lv_iinc (v := nI i - 1) (lv' := [(3, .int (nI i - 1)), (4, .int ((T.2.1 7) i)), (0, .ref (a 0)), (1, .int mi), (2, .int x)]) C.1 C.2.1 dX9_letPass_79 hl (k := 4) rfl (by rw [litm1, Int32.sub_eq_add_neg]) (by decide) rfl (fun ls hl => ?_)
          refine lv_goto (tgt := 22) C.1 C.2.1 dX9_letPass_82 (by decide) ?_
          exact ih22 (i, T, x) (⟨by omega, h2, by omega, h4.trans (by rw [lpR, if_neg c_42, if_pos c_65])⟩) _ _ hw _ (lv_sub hl [2, 3, 4, 0] rfl)
        · refine lv_aload_n C.1 C.2.1 dX9_letPass_68 rfl (lv_at hl 1 rfl) ?_
          refine r_get C hw 0 rfl rfl in_X9 1 (by decide) fl_X9_21 rfl (v := .ref (a 6)) rfl dX9_letPass_69 ?_
          refine lv_iload_n C.1 C.2.1 dX9_letPass_72 rfl (lv_at hl 4 rfl) ?_
          refine r_vv C hw (k1_remove hF (a := a) (S := T) (X := X) (n := (nO T)) h2.1 h2.2.1 (j := i) (by omega)) ml_X9_150 yf_X1_remove 6 rfl rfl (As := [.int (nI i)]) rfl rfl ⟨Nat.le_of_ble_eq_true rfl, Nat.le_of_ble_eq_true rfl⟩ ⟨Nat.le_of_ble_eq_true rfl, Nat.le_of_ble_eq_true rfl⟩ hl.1 (Nat.le_of_ble_eq_true rfl) dX9_letPass_73 (fun _ H locs hp_73 hw => ?_)
          replace hw : WH G s (stW G a (rmS T (nO T) i) ++ X) H locs := hw
          refine lv_iinc (v := x + 1) (lv' := [(2, .int (x + 1)), (4, .int ((T.2.1 7) i)), (0, .ref (a 0)), (1, .int mi), (3, .int (nI i))]) C.1 C.2.1 dX9_letPass_76 hl (k := 3) rfl (by rw [lit1]) (by decide) rfl (fun ls hl => ?_)
          refine lv_iinc (v := nI i - 1) (lv' := [(3, .int (nI i - 1)), (2, .int (x + 1)), (4, .int ((T.2.1 7) i)), (0, .ref (a 0)), (1, .int mi)]) C.1 C.2.1 dX9_letPass_79 hl (k := 4) rfl (by rw [litm1, Int32.sub_eq_add_neg]) (by decide) rfl (fun ls hl => ?_)
          refine lv_goto (tgt := 22) C.1 C.2.1 dX9_letPass_82 (by decide) ?_
          exact ih22 (i, (rmS T (nO T) i), (x + 1)) (⟨by omega, (okS_rm h2 (by omega)).1, by rw [(okS_rm h2 (show i < nO T by omega)).2]; omega, h4.trans (by rw [lpR, if_neg c_42, if_neg c_65])⟩) _ _ hw _ (lv_sub hl [3, 4, 1, 0] rfl)
      · have c_42 : mi < T.2.1 7 i := by rw [Int32.le_iff_toInt_le] at c_42; rw [Int32.lt_iff_toInt_lt]; omega
        refine lv_aload_n C.1 C.2.1 dX9_letPass_45 rfl (lv_at hl 1 rfl) ?_
        refine r_get C hw 0 rfl rfl in_X9 1 (by decide) fl_X9_21 rfl (v := .ref (a 6)) rfl dX9_letPass_46 ?_
        refine r_get C hw 6 rfl rfl in_X1 5 (by decide) fl_X9_155 rfl (v := .ref (a 17)) rfl dX9_letPass_49 ?_
        refine lv_iload_n C.1 C.2.1 dX9_letPass_52 rfl (lv_at hl 4 rfl) ?_
        refine lv_iload C.1 C.2.1 dX9_letPass_53 (lv_at hl 0 rfl) ?_
        refine lv_iload_n C.1 C.2.1 dX9_letPass_55 rfl (lv_at hl 2 rfl) ?_
        refine lv_isub C.1 C.2.1 dX9_letPass_56 ?_
        refine r_vv C hw (k7_set hF (strow_7 G a T X) (by decide) (strow_e G a T X 7) (nI i) (((T.2.1 7) i) - mi)) ml_X9_158 yf_X7_set 17 rfl rfl (As := [.int (nI i), .int (((T.2.1 7) i) - mi)]) rfl rfl ⟨Nat.le_of_ble_eq_true rfl, Nat.le_of_ble_eq_true rfl⟩ ⟨Nat.le_of_ble_eq_true rfl, Nat.le_of_ble_eq_true rfl⟩ hl.1 (Nat.le_of_ble_eq_true rfl) dX9_letPass_57 (fun _ H locs hp_57 hw => ?_)
        replace hw : WH G s (stW G a (sR T 7 (upd (T.2.1 7) i (((T.2.1 7) i) - mi))) ++ X) H locs := hw.to (congrArg (fun g => stW G a (sR T 7 g) ++ X) (rset_nI (by omega) (by decide)))
        refine lv_goto (tgt := 79) C.1 C.2.1 dX9_letPass_60 (by decide) ?_
        refine lv_iinc (v := nI i - 1) (lv' := [(3, .int (nI i - 1)), (4, .int ((T.2.1 7) i)), (0, .ref (a 0)), (1, .int mi), (2, .int x)]) C.1 C.2.1 dX9_letPass_79 hl (k := 4) rfl (by rw [litm1, Int32.sub_eq_add_neg]) (by decide) rfl (fun ls hl => ?_)
        refine lv_goto (tgt := 22) C.1 C.2.1 dX9_letPass_82 (by decide) ?_
        exact ih22 (i, (sR T 7 (upd (T.2.1 7) i (((T.2.1 7) i) - mi))), x) (⟨by omega, h2, by show i ≤ nO T; omega, h4.trans (if_pos c_42)⟩) _ _ hw _ (lv_sub hl [2, 3, 4, 0] rfl)
  · rintro ⟨k, T, x⟩ ⟨h1, h2, h3, h4⟩; omega

theorem mmax_nI {i j : Nat} (hi : i < 2 ^ 31) (hj : j < 2 ^ 31) : mmax (nI i) (nI j) = nI (max i j) := by
  unfold mmax
  by_cases h : i < j
  · rw [if_pos (nI_lt h hj), Nat.max_eq_right (by omega)]
  · rw [if_neg (nI_nlt (by omega) hi), Nat.max_eq_left (by omega)]
theorem mmin_nI {i j : Nat} (hi : i < 2 ^ 31) (hj : j < 2 ^ 31) : mmin (nI i) (nI j) = nI (min i j) := by
  unfold mmin
  by_cases h : j < i
  · rw [if_pos (nI_lt h hi), Nat.min_eq_right (by omega)]
  · rw [if_neg (nI_nlt (by omega) hj), Nat.min_eq_left (by omega)]
theorem bstep_buys {S : SV} {b : Bool} : ∀ {n j : Nat}, best S b n = some j → buyS S j = b
  | 0, j, h => by cases h
  | n + 1, j, h => by
    rw [best_s] at h
    by_cases hb : buyS S n = b
    · cases ho : best S b n with
      | none => rw [ho, bstep_0 hb] at h; cases h; exact hb
      | some q =>
        rw [ho] at h
        have hq := bstep_buys ho
        cases ha : ahd S b n q with
        | true => rw [bstep_t hb ha] at h; cases h; exact hb
        | false => rw [bstep_f hb ha] at h; cases h; exact hq
    · rw [bstep_n hb] at h
      exact bstep_buys h
theorem tpR_x {pr x : Int32} {S : SV} (h : x ≤ 0) : ∀ f, tpR pr f S x = (S, x)
  | 0 => rfl
  | f + 1 => if_pos h
theorem tpR_1 {pr x : Int32} {S : SV} (h : best S true (nO S) = none) : ∀ f, tpR pr f S x = (S, x)
  | 0 => rfl
  | f + 1 => by rw [tpR]; split; rfl; rw [h]
theorem tpR_2 {pr x : Int32} {S : SV} (h : best S false (nO S) = none) : ∀ f, tpR pr f S x = (S, x)
  | 0 => rfl
  | f + 1 => by rw [tpR]; split; rfl; rw [h]; cases best S true (nO S) <;> rfl
theorem tpR_g {pr x : Int32} {S : SV} {i j : Nat} (hx : ¬ x ≤ 0) (hi : best S true (nO S) = some i) (hj : best S false (nO S) = some j) (f : Nat) : tpR pr (f + 1) S x = tpR pr f (tpS pr S x i j) (x - tpT S x i j) := by
  rw [tpR, if_neg hx, hi, hj]
theorem tp_ne {S : SV} {i j : Nat} (hi : best S true (nO S) = some i) (hj : best S false (nO S) = some j) : i ≠ j := fun e => by
  have h1 := bstep_buys hi
  have h2 := bstep_buys hj
  rw [e, h2] at h1
  cases h1
theorem okS_tp {pr x : Int32} {S : SV} {i j : Nat} (h : okS S) (hi : i < nO S) (hj : j < nO S) (hij : i ≠ j) : okS (rdS (trS S (S.2.1 3 i) (S.2.1 3 j) pr (tpT S x i j)) (nO S) (max i j) (tpT S x i j)) ∧ min i j < nO (rdS (trS S (S.2.1 3 i) (S.2.1 3 j) pr (tpT S x i j)) (nO S) (max i j) (tpT S x i j)) ∧ okS (tpS pr S x i j) ∧ nO (tpS pr S x i j) ≤ nO S := by
  have h1 := okS_rd (okS_tr h (S.2.1 3 i) (S.2.1 3 j) pr (tpT S x i j)) (j := max i j) (show max i j < nO S by omega) (tpT S x i j)
  have e : nO (trS S (S.2.1 3 i) (S.2.1 3 j) pr (tpT S x i j)) = nO S := rfl
  rw [e] at h1
  have h2 : min i j < nO (rdS (trS S (S.2.1 3 i) (S.2.1 3 j) pr (tpT S x i j)) (nO S) (max i j) (tpT S x i j)) := by omega
  have h3 := okS_rd h1.1 h2 (tpT S x i j)
  exact ⟨h1.1, h2, h3.1, Nat.le_trans h3.2.1 h1.2.1⟩
theorem okS_tpR {pr : Int32} : ∀ (f : Nat) {S : SV} {x : Int32}, okS S → okS (tpR pr f S x).1
  | 0, S, x, h => h
  | f + 1, S, x, h => by
    by_cases hx : x ≤ 0
    · rw [tpR_x hx]; exact h
    · cases hi : best S true (nO S) with
      | none => rw [tpR_1 hi]; exact h
      | some i =>
        cases hj : best S false (nO S) with
        | none => rw [tpR_2 hj]; exact h
        | some j =>
          rw [tpR_g hx hi hj]
          exact okS_tpR f (okS_tp h (best_lt hi) (best_lt hj) (tp_ne hi hj)).2.2.1

set_option maxHeartbeats 4000000 in
set_option maxRecDepth 100000 in
theorem k9_tradePool {l : Launch} {G : Gx} (hF : SF l G) {a : Nat → Nat} {S : SV} {X : va_W} (ok : okS S) (pr q : Int32) : MV l G yX9_tradePool cX9_tradePool 9 3 0 0 [.ref (a 0), .int pr, .int q] (stW G a S ++ X) (fun _ => True) (fun _ : Unit => stW G a (tpR pr 20 S q).1 ++ X) := by
  refine mt_of hF (by decide) (Nat.le_of_ble_eq_true rfl) ?_
  intro p e s m below meth c C hin ls hl H locs hw
  have hl : lv_has ls 9 [(0, .ref (a 0)), (1, .int pr), (2, .int q)] := hl
  refine lv_iload_n C.1 C.2.1 dX9_tradePool_0 rfl (lv_at hl 2 rfl) ?_
  refine lv_istore_n (lv' := [(3, .int q), (0, .ref (a 0)), (1, .int pr), (2, .int q)]) C.1 C.2.1 dX9_tradePool_1 rfl hl (by decide) rfl (fun ls hl => ?_)
  refine lv_iconst (v := 0) C.1 C.2.1 dX9_tradePool_2 (by decide) ?_
  refine lv_istore (lv' := [(4, .int 0), (3, .int q), (0, .ref (a 0)), (1, .int pr), (2, .int q)]) C.1 C.2.1 dX9_tradePool_3 hl (by decide) rfl (fun ls hl => ?_)
  refine w_loop (σ := Nat × SV × Int32) G (fun u ⟨k, T, x⟩ => k ≤ 20 ∧ 20 < k + u ∧ okS T ∧ tpR pr 20 S q = tpR pr (20 - k) T x) (fun ⟨k, T, x⟩ => stW G a T ++ X) (fun ⟨k, T, x⟩ => 0) (fun ⟨k, T, x⟩ => 0) (fun ⟨k, T, x⟩ => [(0, .ref (a 0)), (1, .int pr), (2, .int q), (3, .int x), (4, .int (nI k))]) 9 ?_ ?_ 21 (0, S, q) (⟨Nat.zero_le _, by omega, ok, rfl⟩) hw (lv_sub hl [2, 3, 4, 1, 0] rfl)
  · rintro n5 ⟨k, T, x⟩ ⟨h1, h2, h3, h4⟩ ih5 H locs hw ls hl
    replace hw : WH G s (stW G a T ++ X) H locs := hw
    replace hl : lv_has ls 9 [(0, .ref (a 0)), (1, .int pr), (2, .int q), (3, .int x), (4, .int (nI k))] := hl
    have hT20 : nO T ≤ 20 := h3.2.1
    refine lv_iload C.1 C.2.1 dX9_tradePool_5 (lv_at hl 4 rfl) ?_
    refine lv_bipush (v := 20) C.1 C.2.1 dX9_tradePool_7 (by decide) ?_
    refine lv_icmp_ge (tgt := 162) C.1 C.2.1 dX9_tradePool_9 (by decide) (fun c_9 => ?_) (fun c_9 => ?_)
    · obtain rfl : k = 20 := le_T (n := 20) h1 (by decide) c_9
      have hy : tpR pr 20 S q = (T, x) := h4.trans (rfl)
      exact r_vret C hw rfl () (trivial) (by rw [hy]) (Nat.le_of_ble_eq_true rfl) (Nat.le_of_ble_eq_true rfl) dX9_tradePool_162
    · have hk := le_F (n := 20) h1 (by decide) c_9
      refine lv_iload_n C.1 C.2.1 dX9_tradePool_12 rfl (lv_at hl 3 rfl) ?_
      refine lv_if_le (tgt := 162) C.1 C.2.1 dX9_tradePool_13 (by decide) (fun c_13 => ?_) (fun c_13 => ?_)
      · have hy : tpR pr 20 S q = (T, x) := h4.trans (tpR_x c_13 _)
        exact r_vret C hw rfl () (trivial) (by rw [hy]) (Nat.le_of_ble_eq_true rfl) (Nat.le_of_ble_eq_true rfl) dX9_tradePool_162
      · refine lv_aload_n C.1 C.2.1 dX9_tradePool_16 rfl (lv_at hl 0 rfl) ?_
        refine r_get C hw 0 rfl rfl in_X9 1 (by decide) fl_X9_21 rfl (v := .ref (a 6)) rfl dX9_tradePool_17 ?_
        refine lv_iconst (v := 1) C.1 C.2.1 dX9_tradePool_20 (by decide) ?_
        refine r_vi C hw (k1_bestSlot hF (a := a) (S := T) (X := X) (n := nO T) h3.1 h3.2.1 true) ml_X9_121 yf_X1_bestSlot 6 rfl rfl (As := [.int 1]) rfl rfl ⟨Nat.le_of_ble_eq_true rfl, Nat.le_of_ble_eq_true rfl⟩ ⟨Nat.le_of_ble_eq_true rfl, Nat.le_of_ble_eq_true rfl⟩ hl.1 (Nat.le_of_ble_eq_true rfl) dX9_tradePool_21 (fun r_21 _ H locs hp_21 hw => ?_)
        obtain ⟨o_21, ho_21⟩ : ∃ o, o = best T true (nO T) := ⟨_, rfl⟩
        obtain rfl : r_21 = oI o_21 := by rw [hp_21, ho_21]
        replace hw : WH G s (stW G a T ++ X) H locs := hw
        refine lv_istore (lv' := [(5, .int (oI o_21)), (0, .ref (a 0)), (1, .int pr), (2, .int q), (3, .int x), (4, .int (nI k))]) C.1 C.2.1 dX9_tradePool_24 hl (by decide) rfl (fun ls hl => ?_)
        refine lv_aload_n C.1 C.2.1 dX9_tradePool_26 rfl (lv_at hl 1 rfl) ?_
        refine r_get C hw 0 rfl rfl in_X9 1 (by decide) fl_X9_21 rfl (v := .ref (a 6)) rfl dX9_tradePool_27 ?_
        refine lv_iconst (v := 0) C.1 C.2.1 dX9_tradePool_30 (by decide) ?_
        refine r_vi C hw (k1_bestSlot hF (a := a) (S := T) (X := X) (n := nO T) h3.1 h3.2.1 false) ml_X9_121 yf_X1_bestSlot 6 rfl rfl (As := [.int 0]) rfl rfl ⟨Nat.le_of_ble_eq_true rfl, Nat.le_of_ble_eq_true rfl⟩ ⟨Nat.le_of_ble_eq_true rfl, Nat.le_of_ble_eq_true rfl⟩ hl.1 (Nat.le_of_ble_eq_true rfl) dX9_tradePool_31 (fun r_31 _ H locs hp_31 hw => ?_)
        obtain ⟨o_31, ho_31⟩ : ∃ o, o = best T false (nO T) := ⟨_, rfl⟩
        obtain rfl : r_31 = oI o_31 := by rw [hp_31, ho_31]
        replace hw : WH G s (stW G a T ++ X) H locs := hw
        refine lv_istore (lv' := [(6, .int (oI o_31)), (5, .int (oI o_21)), (0, .ref (a 0)), (1, .int pr), (2, .int q), (3, .int x), (4, .int (nI k))]) C.1 C.2.1 dX9_tradePool_34 hl (by decide) rfl (fun ls hl => ?_)
        refine lv_iload C.1 C.2.1 dX9_tradePool_36 (lv_at hl 1 rfl) ?_
        refine lv_iconst (v := -1) C.1 C.2.1 dX9_tradePool_38 (by decide) ?_
        refine lv_icmp_eq (tgt := 162) C.1 C.2.1 dX9_tradePool_39 (by decide) (fun c_39 => ?_) (fun c_39 => ?_)
        · obtain rfl : o_21 = none := (oI_none (fun q hq => by have := best_lt (ho_21.symm.trans hq); omega)).mp c_39
          replace hl : lv_has ls 9 [(6, .int (oI o_31)), (5, .int (-1)), (0, .ref (a 0)), (1, .int pr), (2, .int q), (3, .int x), (4, .int (nI k))] := hl
          have hy := h4.trans (tpR_1 ho_21.symm _)
          exact r_vret C hw rfl () (trivial) (by rw [hy]) (Nat.le_of_ble_eq_true rfl) (Nat.le_of_ble_eq_true rfl) dX9_tradePool_162
        · obtain ⟨i, rfl⟩ : ∃ q, o_21 = some q := by cases o_21 with | none => exact absurd rfl c_39 | some q => exact ⟨q, rfl⟩
          have hi : i < nO T := best_lt ho_21.symm
          replace hl : lv_has ls 9 [(6, .int (oI o_31)), (5, .int (nI i)), (0, .ref (a 0)), (1, .int pr), (2, .int q), (3, .int x), (4, .int (nI k))] := hl
          refine lv_iload C.1 C.2.1 dX9_tradePool_42 (lv_at hl 0 rfl) ?_
          refine lv_iconst (v := -1) C.1 C.2.1 dX9_tradePool_44 (by decide) ?_
          refine lv_icmp_ne (tgt := 51) C.1 C.2.1 dX9_tradePool_45 (by decide) (fun c_45 => ?_) (fun c_45 => ?_)
          · obtain ⟨j, rfl⟩ : ∃ q, o_31 = some q := by cases o_31 with | none => exact absurd rfl c_45 | some q => exact ⟨q, rfl⟩
            have hj : j < nO T := best_lt ho_31.symm
            replace hl : lv_has ls 9 [(6, .int (nI j)), (5, .int (nI i)), (0, .ref (a 0)), (1, .int pr), (2, .int q), (3, .int x), (4, .int (nI k))] := hl
            have hij := tp_ne ho_21.symm ho_31.symm
            have hz := okS_tp (pr := pr) (x := x) h3 hi hj hij
            refine lv_aload_n C.1 C.2.1 dX9_tradePool_51 rfl (lv_at hl 2 rfl) ?_
            refine r_get C hw 0 rfl rfl in_X9 1 (by decide) fl_X9_21 rfl (v := .ref (a 6)) rfl dX9_tradePool_52 ?_
            refine r_get C hw 6 rfl rfl in_X1 4 (by decide) fl_X9_128 rfl (v := .ref (a 15)) rfl dX9_tradePool_55 ?_
            refine lv_iload C.1 C.2.1 dX9_tradePool_58 (lv_at hl 1 rfl) ?_
            refine r_vi C hw (k7_get hF (strow_6 G a T X) (by decide) (strow_e G a T X 6) (nI i)) ml_X9_96 yf_X7_get 15 rfl rfl (As := [.int (nI i)]) rfl rfl ⟨Nat.le_of_ble_eq_true rfl, Nat.le_of_ble_eq_true rfl⟩ ⟨Nat.le_of_ble_eq_true rfl, Nat.le_of_ble_eq_true rfl⟩ hl.1 (Nat.le_of_ble_eq_true rfl) dX9_tradePool_60 (fun r_60 _ H locs hp_60 hw => ?_)
            obtain rfl : r_60 = ((T.2.1 6) i) := by rw [hp_60]; exact rget_nI (by omega) (by decide)
            replace hw : WH G s (stW G a T ++ X) H locs := hw
            refine lv_aload_n C.1 C.2.1 dX9_tradePool_63 rfl (lv_at hl 2 rfl) ?_
            refine r_get C hw 0 rfl rfl in_X9 1 (by decide) fl_X9_21 rfl (v := .ref (a 6)) rfl dX9_tradePool_64 ?_
            refine r_get C hw 6 rfl rfl in_X1 4 (by decide) fl_X9_128 rfl (v := .ref (a 15)) rfl dX9_tradePool_67 ?_
            refine lv_iload C.1 C.2.1 dX9_tradePool_70 (lv_at hl 0 rfl) ?_
            refine r_vi C hw (k7_get hF (strow_6 G a T X) (by decide) (strow_e G a T X 6) (nI j)) ml_X9_96 yf_X7_get 15 rfl rfl (As := [.int (nI j)]) rfl rfl ⟨Nat.le_of_ble_eq_true rfl, Nat.le_of_ble_eq_true rfl⟩ ⟨Nat.le_of_ble_eq_true rfl, Nat.le_of_ble_eq_true rfl⟩ hl.1 (Nat.le_of_ble_eq_true rfl) dX9_tradePool_72 (fun r_72 _ H locs hp_72 hw => ?_)
            obtain rfl : r_72 = ((T.2.1 6) j) := by rw [hp_72]; exact rget_nI (by omega) (by decide)
            replace hw : WH G s (stW G a T ++ X) H locs := hw
            refine r_mmin C ml_X9_131 hl.1 (Nat.le_of_ble_eq_true rfl) (Nat.le_of_ble_eq_true rfl) (Nat.le_of_ble_eq_true rfl) (Nat.le_of_ble_eq_true rfl) dX9_tradePool_75 ?_
            refine lv_istore (lv' := [(7, .int (mmin ((T.2.1 6) i) ((T.2.1 6) j))), (6, .int (nI j)), (5, .int (nI i)), (0, .ref (a 0)), (1, .int pr), (2, .int q), (3, .int x), (4, .int (nI k))]) C.1 C.2.1 dX9_tradePool_78 hl (by decide) rfl (fun ls hl => ?_)
            refine lv_iload C.1 C.2.1 dX9_tradePool_80 (lv_at hl 0 rfl) ?_
            refine lv_iload_n C.1 C.2.1 dX9_tradePool_82 rfl (lv_at hl 6 rfl) ?_
            refine r_mmin C ml_X9_131 hl.1 (Nat.le_of_ble_eq_true rfl) (Nat.le_of_ble_eq_true rfl) (Nat.le_of_ble_eq_true rfl) (Nat.le_of_ble_eq_true rfl) dX9_tradePool_83 ?_
            refine lv_istore (lv' := [(8, .int (mmin (mmin ((T.2.1 6) i) ((T.2.1 6) j)) x)), (7, .int (mmin ((T.2.1 6) i) ((T.2.1 6) j))), (6, .int (nI j)), (5, .int (nI i)), (0, .ref (a 0)), (1, .int pr), (2, .int q), (3, .int x), (4, .int (nI k))]) C.1 C.2.1 dX9_tradePool_86 hl (by decide) rfl (fun ls hl => ?_)
            refine lv_aload_n C.1 C.2.1 dX9_tradePool_88 rfl (lv_at hl 4 rfl) ?_
            refine lv_aload_n C.1 C.2.1 dX9_tradePool_89 rfl (lv_at hl 4 rfl) ?_
            refine r_get C hw 0 rfl rfl in_X9 1 (by decide) fl_X9_21 rfl (v := .ref (a 6)) rfl dX9_tradePool_90 ?_
            refine r_get C hw 6 rfl rfl in_X1 1 (by decide) fl_X9_137 rfl (v := .ref (a 9)) rfl dX9_tradePool_93 ?_
            refine lv_iload C.1 C.2.1 dX9_tradePool_96 (lv_at hl 3 rfl) ?_
            refine r_vi C hw (k7_get hF (strow_3 G a T X) (by decide) (strow_e G a T X 3) (nI i)) ml_X9_96 yf_X7_get 9 rfl rfl (As := [.int (nI i)]) rfl rfl ⟨Nat.le_of_ble_eq_true rfl, Nat.le_of_ble_eq_true rfl⟩ ⟨Nat.le_of_ble_eq_true rfl, Nat.le_of_ble_eq_true rfl⟩ hl.1 (Nat.le_of_ble_eq_true rfl) dX9_tradePool_98 (fun r_98 _ H locs hp_98 hw => ?_)
            obtain rfl : r_98 = ((T.2.1 3) i) := by rw [hp_98]; exact rget_nI (by omega) (by decide)
            replace hw : WH G s (stW G a T ++ X) H locs := hw
            refine lv_aload_n C.1 C.2.1 dX9_tradePool_101 rfl (lv_at hl 4 rfl) ?_
            refine r_get C hw 0 rfl rfl in_X9 1 (by decide) fl_X9_21 rfl (v := .ref (a 6)) rfl dX9_tradePool_102 ?_
            refine r_get C hw 6 rfl rfl in_X1 1 (by decide) fl_X9_137 rfl (v := .ref (a 9)) rfl dX9_tradePool_105 ?_
            refine lv_iload C.1 C.2.1 dX9_tradePool_108 (lv_at hl 2 rfl) ?_
            refine r_vi C hw (k7_get hF (strow_3 G a T X) (by decide) (strow_e G a T X 3) (nI j)) ml_X9_96 yf_X7_get 9 rfl rfl (As := [.int (nI j)]) rfl rfl ⟨Nat.le_of_ble_eq_true rfl, Nat.le_of_ble_eq_true rfl⟩ ⟨Nat.le_of_ble_eq_true rfl, Nat.le_of_ble_eq_true rfl⟩ hl.1 (Nat.le_of_ble_eq_true rfl) dX9_tradePool_110 (fun r_110 _ H locs hp_110 hw => ?_)
            obtain rfl : r_110 = ((T.2.1 3) j) := by rw [hp_110]; exact rget_nI (by omega) (by decide)
            replace hw : WH G s (stW G a T ++ X) H locs := hw
            refine lv_iload_n C.1 C.2.1 dX9_tradePool_113 rfl (lv_at hl 5 rfl) ?_
            refine lv_iload C.1 C.2.1 dX9_tradePool_114 (lv_at hl 0 rfl) ?_
            refine r_vv C hw (k9_trade hF (a := a) (S := T) (X := X) ((T.2.1 3) i) ((T.2.1 3) j) pr (mmin (mmin ((T.2.1 6) i) ((T.2.1 6) j)) x)) ml_X9_139 yf_X9_trade 0 rfl rfl (As := [.int ((T.2.1 3) i), .int ((T.2.1 3) j), .int pr, .int (mmin (mmin ((T.2.1 6) i) ((T.2.1 6) j)) x)]) rfl rfl ⟨Nat.le_of_ble_eq_true rfl, Nat.le_of_ble_eq_true rfl⟩ ⟨Nat.le_of_ble_eq_true rfl, Nat.le_of_ble_eq_true rfl⟩ hl.1 (Nat.le_of_ble_eq_true rfl) dX9_tradePool_116 (fun _ H locs hp_116 hw => ?_)
            replace hw : WH G s (stW G a (trS T ((T.2.1 3) i) ((T.2.1 3) j) pr (mmin (mmin ((T.2.1 6) i) ((T.2.1 6) j)) x)) ++ X) H locs := hw
            refine lv_aload_n C.1 C.2.1 dX9_tradePool_119 rfl (lv_at hl 4 rfl) ?_
            refine r_get C hw 0 rfl rfl in_X9 1 (by decide) fl_X9_21 rfl (v := .ref (a 6)) rfl dX9_tradePool_120 ?_
            refine lv_iload C.1 C.2.1 dX9_tradePool_123 (lv_at hl 3 rfl) ?_
            refine lv_iload C.1 C.2.1 dX9_tradePool_125 (lv_at hl 2 rfl) ?_
            refine r_mmax C ml_X9_179 hl.1 (Nat.le_of_ble_eq_true rfl) (Nat.le_of_ble_eq_true rfl) (Nat.le_of_ble_eq_true rfl) (Nat.le_of_ble_eq_true rfl) dX9_tradePool_127 ?_
            refine r_toe (show _ = nI (max i j) from mmax_nI (by omega) (by omega)) ?_
            refine lv_iload C.1 C.2.1 dX9_tradePool_130 (lv_at hl 0 rfl) ?_
            refine r_vv C hw (k1_reduce hF (a := a) (S := (trS T ((T.2.1 3) i) ((T.2.1 3) j) pr (mmin (mmin ((T.2.1 6) i) ((T.2.1 6) j)) x))) (X := X) (n := (nO T)) (show ((trS T ((T.2.1 3) i) ((T.2.1 3) j) pr (mmin (mmin ((T.2.1 6) i) ((T.2.1 6) j)) x))).1 1 = nI (nO T) from h3.1) h3.2.1 (j := (max i j)) (show max i j < nO T by omega) (mmin (mmin ((T.2.1 6) i) ((T.2.1 6) j)) x)) ml_X9_143 yf_X1_reduce 6 rfl rfl (As := [.int (nI (max i j)), .int (mmin (mmin ((T.2.1 6) i) ((T.2.1 6) j)) x)]) rfl rfl ⟨Nat.le_of_ble_eq_true rfl, Nat.le_of_ble_eq_true rfl⟩ ⟨Nat.le_of_ble_eq_true rfl, Nat.le_of_ble_eq_true rfl⟩ hl.1 (Nat.le_of_ble_eq_true rfl) dX9_tradePool_132 (fun _ H locs hp_132 hw => ?_)
            replace hw : WH G s (stW G a (rdS (trS T ((T.2.1 3) i) ((T.2.1 3) j) pr (mmin (mmin ((T.2.1 6) i) ((T.2.1 6) j)) x)) (nO T) (max i j) (mmin (mmin ((T.2.1 6) i) ((T.2.1 6) j)) x)) ++ X) H locs := hw
            refine lv_aload_n C.1 C.2.1 dX9_tradePool_135 rfl (lv_at hl 4 rfl) ?_
            refine r_get C hw 0 rfl rfl in_X9 1 (by decide) fl_X9_21 rfl (v := .ref (a 6)) rfl dX9_tradePool_136 ?_
            refine lv_iload C.1 C.2.1 dX9_tradePool_139 (lv_at hl 3 rfl) ?_
            refine lv_iload C.1 C.2.1 dX9_tradePool_141 (lv_at hl 2 rfl) ?_
            refine r_mmin C ml_X9_131 hl.1 (Nat.le_of_ble_eq_true rfl) (Nat.le_of_ble_eq_true rfl) (Nat.le_of_ble_eq_true rfl) (Nat.le_of_ble_eq_true rfl) dX9_tradePool_143 ?_
            refine r_toe (show _ = nI (min i j) from mmin_nI (by omega) (by omega)) ?_
            refine lv_iload C.1 C.2.1 dX9_tradePool_146 (lv_at hl 0 rfl) ?_
            refine r_vv C hw (k1_reduce hF (a := a) (S := (rdS (trS T ((T.2.1 3) i) ((T.2.1 3) j) pr (mmin (mmin ((T.2.1 6) i) ((T.2.1 6) j)) x)) (nO T) (max i j) (mmin (mmin ((T.2.1 6) i) ((T.2.1 6) j)) x))) (X := X) (n := (nO (rdS (trS T ((T.2.1 3) i) ((T.2.1 3) j) pr (mmin (mmin ((T.2.1 6) i) ((T.2.1 6) j)) x)) (nO T) (max i j) (mmin (mmin ((T.2.1 6) i) ((T.2.1 6) j)) x)))) hz.1.1 hz.1.2.1 (j := (min i j)) hz.2.1 (mmin (mmin ((T.2.1 6) i) ((T.2.1 6) j)) x)) ml_X9_143 yf_X1_reduce 6 rfl rfl (As := [.int (nI (min i j)), .int (mmin (mmin ((T.2.1 6) i) ((T.2.1 6) j)) x)]) rfl rfl ⟨Nat.le_of_ble_eq_true rfl, Nat.le_of_ble_eq_true rfl⟩ ⟨Nat.le_of_ble_eq_true rfl, Nat.le_of_ble_eq_true rfl⟩ hl.1 (Nat.le_of_ble_eq_true rfl) dX9_tradePool_148 (fun _ H locs hp_148 hw => ?_)
            replace hw : WH G s (stW G a (rdS (rdS (trS T ((T.2.1 3) i) ((T.2.1 3) j) pr (mmin (mmin ((T.2.1 6) i) ((T.2.1 6) j)) x)) (nO T) (max i j) (mmin (mmin ((T.2.1 6) i) ((T.2.1 6) j)) x)) (nO (rdS (trS T ((T.2.1 3) i) ((T.2.1 3) j) pr (mmin (mmin ((T.2.1 6) i) ((T.2.1 6) j)) x)) (nO T) (max i j) (mmin (mmin ((T.2.1 6) i) ((T.2.1 6) j)) x))) (min i j) (mmin (mmin ((T.2.1 6) i) ((T.2.1 6) j)) x)) ++ X) H locs := hw
            refine lv_iload_n C.1 C.2.1 dX9_tradePool_151 rfl (lv_at hl 7 rfl) ?_
            refine lv_iload C.1 C.2.1 dX9_tradePool_152 (lv_at hl 0 rfl) ?_
            refine lv_isub C.1 C.2.1 dX9_tradePool_154 ?_
            refine lv_istore_n (lv' := [(3, .int (x - (mmin (mmin ((T.2.1 6) i) ((T.2.1 6) j)) x))), (8, .int (mmin (mmin ((T.2.1 6) i) ((T.2.1 6) j)) x)), (7, .int (mmin ((T.2.1 6) i) ((T.2.1 6) j))), (6, .int (nI j)), (5, .int (nI i)), (0, .ref (a 0)), (1, .int pr), (2, .int q), (4, .int (nI k))]) C.1 C.2.1 dX9_tradePool_155 rfl hl (by decide) rfl (fun ls hl => ?_)
            refine lv_iinc (v := nI (k + 1)) (lv' := [(4, .int (nI (k + 1))), (3, .int (x - (mmin (mmin ((T.2.1 6) i) ((T.2.1 6) j)) x))), (8, .int (mmin (mmin ((T.2.1 6) i) ((T.2.1 6) j)) x)), (7, .int (mmin ((T.2.1 6) i) ((T.2.1 6) j))), (6, .int (nI j)), (5, .int (nI i)), (0, .ref (a 0)), (1, .int pr), (2, .int q)]) C.1 C.2.1 dX9_tradePool_156 hl (k := 8) rfl (inc_nI k) (by decide) rfl (fun ls hl => ?_)
            refine lv_goto (tgt := 5) C.1 C.2.1 dX9_tradePool_159 (by decide) ?_
            exact ih5 (k + 1, tpS pr T x i j, x - tpT T x i j) (⟨by omega, by omega, hz.2.2.1, h4.trans (by rw [show 20 - k = (20 - (k + 1)) + 1 by omega]; exact tpR_g c_13 ho_21.symm ho_31.symm _)⟩) _ _ hw _ (lv_sub hl [6, 7, 8, 1, 0] rfl)
          · obtain rfl : o_31 = none := (oI_none (fun q hq => by have := best_lt (ho_31.symm.trans hq); omega)).mp c_45
            replace hl : lv_has ls 9 [(6, .int (-1)), (5, .int (nI i)), (0, .ref (a 0)), (1, .int pr), (2, .int q), (3, .int x), (4, .int (nI k))] := hl
            have hy := h4.trans (tpR_2 ho_31.symm _)
            refine lv_goto (tgt := 162) C.1 C.2.1 dX9_tradePool_48 (by decide) ?_
            exact r_vret C hw rfl () (trivial) (by rw [hy]) (Nat.le_of_ble_eq_true rfl) (Nat.le_of_ble_eq_true rfl) dX9_tradePool_162
  · rintro ⟨k, T, x⟩ ⟨h1, h2, h3, h4⟩; omega

set_option maxHeartbeats 4000000 in
set_option maxRecDepth 100000 in
theorem k9_copyFrom {l : Launch} {G : Gx} (hF : SF l G) {a : Nat → Nat} {S : SV} {X : va_W} {b : Nat → Nat} {T : SV} (hb : isB (T.1 2)) : MV l G yX9_copyFrom cX9_copyFrom 2 2 0 0 [.ref (a 0), .ref (b 0)] (stW G a S ++ (stW G b T ++ X)) (fun _ => True) (fun _ : Unit => stW G a T ++ (stW G b T ++ X)) := by
  refine mt_of hF (by decide) (Nat.le_of_ble_eq_true rfl) ?_
  intro p e s m below meth c C hin ls hl H locs hw
  have hl : lv_has ls 2 [(0, .ref (a 0)), (1, .ref (b 0))] := hl
  refine lv_aload_n C.1 C.2.1 dX9_copyFrom_0 rfl (lv_at hl 0 rfl) ?_
  refine r_get C hw 0 rfl rfl in_X9 0 (by decide) fl_X9_12 rfl (v := .ref (a 1)) rfl dX9_copyFrom_1 ?_
  refine lv_aload_n C.1 C.2.1 dX9_copyFrom_4 rfl (lv_at hl 1 rfl) ?_
  refine r_get C hw 19 rfl rfl in_X9 0 (by decide) fl_X9_12 rfl (v := .ref (b 1)) rfl dX9_copyFrom_5 ?_
  refine r_vv C hw (k8_copyFrom hF (a := a) (S := S) (b := b) (T := T) (X := X)) ml_X9_182 yf_X8_copyFrom 1 rfl rfl (As := [.ref (b 1)]) rfl rfl ⟨Nat.le_of_ble_eq_true rfl, Nat.le_of_ble_eq_true rfl⟩ ⟨Nat.le_of_ble_eq_true rfl, Nat.le_of_ble_eq_true rfl⟩ hl.1 (Nat.le_of_ble_eq_true rfl) dX9_copyFrom_8 (fun _ H locs hp_8 hw => ?_)
  replace hw : WH G s (stW G a (slC S T) ++ (stW G b T ++ X)) H locs := hw
  refine lv_aload_n C.1 C.2.1 dX9_copyFrom_11 rfl (lv_at hl 0 rfl) ?_
  refine r_get C hw 0 rfl rfl in_X9 1 (by decide) fl_X9_21 rfl (v := .ref (a 6)) rfl dX9_copyFrom_12 ?_
  refine lv_aload_n C.1 C.2.1 dX9_copyFrom_15 rfl (lv_at hl 1 rfl) ?_
  refine r_get C hw 19 rfl rfl in_X9 1 (by decide) fl_X9_21 rfl (v := .ref (b 6)) rfl dX9_copyFrom_16 ?_
  refine r_vv C hw (k1_copyFrom hF (a := a) (S := (slC S T)) (b := b) (T := T) (X := X)) ml_X9_186 yf_X1_copyFrom 6 rfl rfl (As := [.ref (b 6)]) rfl rfl ⟨Nat.le_of_ble_eq_true rfl, Nat.le_of_ble_eq_true rfl⟩ ⟨Nat.le_of_ble_eq_true rfl, Nat.le_of_ble_eq_true rfl⟩ hl.1 (Nat.le_of_ble_eq_true rfl) dX9_copyFrom_19 (fun _ H locs hp_19 hw => ?_)
  replace hw : WH G s (stW G a (bkC (slC S T) T) ++ (stW G b T ++ X)) H locs := hw
  refine lv_aload_n C.1 C.2.1 dX9_copyFrom_22 rfl (lv_at hl 0 rfl) ?_
  refine lv_aload_n C.1 C.2.1 dX9_copyFrom_23 rfl (lv_at hl 1 rfl) ?_
  refine r_get C hw 19 rfl rfl in_X9 2 (by decide) fl_X9_25 rfl (v := .int (T.1 2)) rfl dX9_copyFrom_24 ?_
  refine r_put C hw 0 rfl rfl in_X9 tyX9 tyX9_ok nmX9 2 (by decide) fl_X9_25 rfl rfl (isB_nar hb) (isB_fit hb) (Nat.le_of_ble_eq_true rfl) (w' := stW G a (sI (bkC (slC S T) T) 2 (T.1 2)) ++ (stW G b T ++ X)) rfl dX9_copyFrom_27 (fun H locs hw => ?_)
  refine lv_aload_n C.1 C.2.1 dX9_copyFrom_30 rfl (lv_at hl 0 rfl) ?_
  refine lv_aload_n C.1 C.2.1 dX9_copyFrom_31 rfl (lv_at hl 1 rfl) ?_
  refine r_get C hw 19 rfl rfl in_X9 3 (by decide) fl_X9_29 rfl (v := .int (T.1 3)) rfl dX9_copyFrom_32 ?_
  refine r_put C hw 0 rfl rfl in_X9 tyX9 tyX9_ok nmX9 3 (by decide) fl_X9_29 rfl rfl rfl rfl (Nat.le_of_ble_eq_true rfl) (w' := stW G a (sI (sI (bkC (slC S T) T) 2 (T.1 2)) 3 (T.1 3)) ++ (stW G b T ++ X)) rfl dX9_copyFrom_35 (fun H locs hw => ?_)
  refine lv_aload_n C.1 C.2.1 dX9_copyFrom_38 rfl (lv_at hl 0 rfl) ?_
  refine lv_aload_n C.1 C.2.1 dX9_copyFrom_39 rfl (lv_at hl 1 rfl) ?_
  refine r_get C hw 19 rfl rfl in_X9 4 (by decide) fl_X9_33 rfl (v := .int (T.1 4)) rfl dX9_copyFrom_40 ?_
  refine r_put C hw 0 rfl rfl in_X9 tyX9 tyX9_ok nmX9 4 (by decide) fl_X9_33 rfl rfl rfl rfl (Nat.le_of_ble_eq_true rfl) (w' := stW G a (sI (sI (sI (bkC (slC S T) T) 2 (T.1 2)) 3 (T.1 3)) 4 (T.1 4)) ++ (stW G b T ++ X)) rfl dX9_copyFrom_43 (fun H locs hw => ?_)
  refine lv_aload_n C.1 C.2.1 dX9_copyFrom_46 rfl (lv_at hl 0 rfl) ?_
  refine lv_aload_n C.1 C.2.1 dX9_copyFrom_47 rfl (lv_at hl 1 rfl) ?_
  refine r_get C hw 19 rfl rfl in_X9 5 (by decide) fl_X9_36 rfl (v := .int (T.1 5)) rfl dX9_copyFrom_48 ?_
  refine r_put C hw 0 rfl rfl in_X9 tyX9 tyX9_ok nmX9 5 (by decide) fl_X9_36 rfl rfl rfl rfl (Nat.le_of_ble_eq_true rfl) (w' := stW G a (sI (sI (sI (sI (bkC (slC S T) T) 2 (T.1 2)) 3 (T.1 3)) 4 (T.1 4)) 5 (T.1 5)) ++ (stW G b T ++ X)) rfl dX9_copyFrom_51 (fun H locs hw => ?_)
  refine lv_aload_n C.1 C.2.1 dX9_copyFrom_54 rfl (lv_at hl 0 rfl) ?_
  refine lv_aload_n C.1 C.2.1 dX9_copyFrom_55 rfl (lv_at hl 1 rfl) ?_
  refine r_get C hw 19 rfl rfl in_X9 6 (by decide) fl_X9_39 rfl (v := .int (T.1 6)) rfl dX9_copyFrom_56 ?_
  refine r_put C hw 0 rfl rfl in_X9 tyX9 tyX9_ok nmX9 6 (by decide) fl_X9_39 rfl rfl rfl rfl (Nat.le_of_ble_eq_true rfl) (w' := stW G a (sI (sI (sI (sI (sI (bkC (slC S T) T) 2 (T.1 2)) 3 (T.1 3)) 4 (T.1 4)) 5 (T.1 5)) 6 (T.1 6)) ++ (stW G b T ++ X)) rfl dX9_copyFrom_59 (fun H locs hw => ?_)
  refine lv_aload_n C.1 C.2.1 dX9_copyFrom_62 rfl (lv_at hl 0 rfl) ?_
  refine lv_aload_n C.1 C.2.1 dX9_copyFrom_63 rfl (lv_at hl 1 rfl) ?_
  refine r_get C hw 19 rfl rfl in_X9 7 (by decide) fl_X9_42 rfl (v := .int (T.1 7)) rfl dX9_copyFrom_64 ?_
  refine r_put C hw 0 rfl rfl in_X9 tyX9 tyX9_ok nmX9 7 (by decide) fl_X9_42 rfl rfl rfl rfl (Nat.le_of_ble_eq_true rfl) (w' := stW G a (sI (sI (sI (sI (sI (sI (bkC (slC S T) T) 2 (T.1 2)) 3 (T.1 3)) 4 (T.1 4)) 5 (T.1 5)) 6 (T.1 6)) 7 (T.1 7)) ++ (stW G b T ++ X)) rfl dX9_copyFrom_67 (fun H locs hw => ?_)
  refine lv_aload_n C.1 C.2.1 dX9_copyFrom_70 rfl (lv_at hl 0 rfl) ?_
  refine lv_aload_n C.1 C.2.1 dX9_copyFrom_71 rfl (lv_at hl 1 rfl) ?_
  refine r_get C hw 19 rfl rfl in_X9 8 (by decide) fl_X9_45 rfl (v := .long T.2.2) rfl dX9_copyFrom_72 ?_
  refine r_put C hw 0 rfl rfl in_X9 tyX9 tyX9_ok nmX9 8 (by decide) fl_X9_45 rfl rfl rfl rfl (Nat.le_of_ble_eq_true rfl) (w' := stW G a (sP (sI (sI (sI (sI (sI (sI (bkC (slC S T) T) 2 (T.1 2)) 3 (T.1 3)) 4 (T.1 4)) 5 (T.1 5)) 6 (T.1 6)) 7 (T.1 7)) T.2.2) ++ (stW G b T ++ X)) rfl dX9_copyFrom_75 (fun H locs hw => ?_)
  exact r_vret C hw rfl () (trivial) rfl (Nat.le_of_ble_eq_true rfl) (Nat.le_of_ble_eq_true rfl) dX9_copyFrom_78

set_option maxHeartbeats 4000000 in
set_option maxRecDepth 100000 in
theorem k9_endPool {l : Launch} {G : Gx} (hF : SF l G) {a : Nat → Nat} {S : SV} {X : va_W} (ok : okS S) : MI l G yX9_endPool cX9_endPool 2 .int 4 1 3 [.ref (a 0)] (stW G a S ++ X) (fun r _ => r = (poolS S (nO S)).2.1) (fun _ : Unit => stW G a (epS S) ++ X) := by
  refine mt_of hF (by decide) (Nat.le_of_ble_eq_true rfl) ?_
  intro p e s m below meth c C hin ls hl H locs hw
  have hl : lv_has ls 2 [(0, .ref (a 0))] := hl
  refine lv_aload_n C.1 C.2.1 dX9_endPool_0 rfl (lv_at hl 0 rfl) ?_
  refine r_get C hw 0 rfl rfl in_X9 1 (by decide) fl_X9_21 rfl (v := .ref (a 6)) rfl dX9_endPool_1 ?_
  refine r_vr C hw (k1_poolByTrying hF (a := a) (S := S) (X := X) (n := nO S) ok.1 ok.2.1) ml_X9_161 yf_X1_poolByTrying 6 rfl rfl (As := []) rfl rfl ⟨Nat.le_of_ble_eq_true rfl, Nat.le_of_ble_eq_true rfl⟩ ⟨Nat.le_of_ble_eq_true rfl, Nat.le_of_ble_eq_true rfl⟩ hl.1 (Nat.le_of_ble_eq_true rfl) dX9_endPool_4 (fun _ q1 H locs hp_4 hw => ?_)
  obtain ⟨ps, hps⟩ : ∃ z, z = poolS S (nO S) := ⟨_, rfl⟩
  rw [← hps] at hw
  replace hw : WH G s (stW G a S ++ ((q1, .inr (7, pcE ps)) :: X)) H locs := hw
  refine lv_astore_n (lv' := [(1, .ref q1), (0, .ref (a 0))]) C.1 C.2.1 dX9_endPool_7 rfl hl (by decide) rfl (fun ls hl => ?_)
  refine lv_aload_n C.1 C.2.1 dX9_endPool_8 rfl (lv_at hl 1 rfl) ?_
  refine lv_aload_n C.1 C.2.1 dX9_endPool_9 rfl (lv_at hl 0 rfl) ?_
  refine r_get C hw 19 rfl rfl in_X5 0 (by decide) fl_X9_165 rfl (v := .int ps.1) rfl dX9_endPool_10 ?_
  refine lv_aload_n C.1 C.2.1 dX9_endPool_13 rfl (lv_at hl 0 rfl) ?_
  refine r_get C hw 19 rfl rfl in_X5 1 (by decide) fl_X9_170 rfl (v := .int ps.2.1) rfl dX9_endPool_14 ?_
  refine r_vv C hw (k9_tradePool hF (a := a) (S := S) (X := ((q1, .inr (7, pcE ps)) :: X)) ok ps.1 ps.2.1) ml_X9_173 yf_X9_tradePool 0 rfl rfl (As := [.int ps.1, .int ps.2.1]) rfl rfl ⟨Nat.le_of_ble_eq_true rfl, Nat.le_of_ble_eq_true rfl⟩ ⟨Nat.le_of_ble_eq_true rfl, Nat.le_of_ble_eq_true rfl⟩ hl.1 (Nat.le_of_ble_eq_true rfl) dX9_endPool_17 (fun _ H locs hp_17 hw => ?_)
  obtain ⟨T, hT⟩ : ∃ z, z = (tpR ps.1 20 S ps.2.1).1 := ⟨_, rfl⟩
  rw [← hT] at hw
  replace hw : WH G s (stW G a T ++ ((q1, .inr (7, pcE ps)) :: X)) H locs := hw
  refine lv_aload_n C.1 C.2.1 dX9_endPool_20 rfl (lv_at hl 1 rfl) ?_
  refine r_get C hw 0 rfl rfl in_X9 1 (by decide) fl_X9_21 rfl (v := .ref (a 6)) rfl dX9_endPool_21 ?_
  refine r_vv C hw (k1_clear hF (a := a) (S := T) (X := ((q1, .inr (7, pcE ps)) :: X))) ml_X9_176 yf_X1_clear 6 rfl rfl (As := []) rfl rfl ⟨Nat.le_of_ble_eq_true rfl, Nat.le_of_ble_eq_true rfl⟩ ⟨Nat.le_of_ble_eq_true rfl, Nat.le_of_ble_eq_true rfl⟩ hl.1 (Nat.le_of_ble_eq_true rfl) dX9_endPool_24 (fun _ H locs hp_24 hw => ?_)
  replace hw : WH G s (stW G a (sI T 1 0) ++ ((q1, .inr (7, pcE ps)) :: X)) H locs := hw
  refine lv_aload_n C.1 C.2.1 dX9_endPool_27 rfl (lv_at hl 1 rfl) ?_
  refine lv_iconst (v := 0) C.1 C.2.1 dX9_endPool_28 (by decide) ?_
  refine r_put C hw 0 rfl rfl in_X9 tyX9 tyX9_ok nmX9 2 (by decide) fl_X9_25 rfl rfl rfl rfl (Nat.le_of_ble_eq_true rfl) (w' := stW G a (sI (sI T 1 0) 2 0) ++ ((q1, .inr (7, pcE ps)) :: X)) rfl dX9_endPool_29 (fun H locs hw => ?_)
  refine lv_aload_n C.1 C.2.1 dX9_endPool_32 rfl (lv_at hl 0 rfl) ?_
  refine r_get C hw 19 rfl rfl in_X5 1 (by decide) fl_X9_170 rfl (v := .int ps.2.1) rfl dX9_endPool_33 ?_
  replace hw : WH G s (stW G a (sI (sI T 1 0) 2 0) ++ X) H locs := hw.fewer (List.Sublist.append_left (List.sublist_cons_self _ _) _)
  exact r_iret C hw rfl rfl () (by rw [← hps]) (by rw [epS, ← hps, ← hT]) (Nat.le_of_ble_eq_true rfl) (Nat.le_of_ble_eq_true rfl) dX9_endPool_36

