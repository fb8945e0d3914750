/-! The model's parser: digits -/
def idB (U : MV_) (n t : Nat) (w : Bool) : Bool := !w && inR (beC U n t 0) 48 57

set_option maxHeartbeats 4000000 in
set_option maxRecDepth 100000 in
theorem k12_isDigit {l : Launch} {G : Gx} (hF : SF l G) {mo : Nat → Nat} {U : MV_} {X : va_W} {n : Nat} (hn1 : U.1 4 = nI n) (hn : n ≤ 60) {t : Nat} (ht : t ≤ n) (w : Bool) : MI l G yX12_isDigit cX12_isDigit 1 .boolean 2 0 0 [.ref (mo 0)] (moW G mo (mI (mI U 5 (nI t)) 6 (bI w)) ++ X) (fun r _ => r = bI (idB U n t w)) (fun _ : Unit => moW G mo (mI (mI U 5 (nI t)) 6 (bI w)) ++ X) := by
  refine mt_of hF (by decide) (Nat.le_of_ble_eq_true rfl) ?_
  intro p e s m below meth c C hin ls hl H locs hw
  have hl : lv_has ls 1 [(0, .ref (mo 0))] := hl
  refine lv_aload_n C.1 C.2.1 dX12_isDigit_0 rfl (lv_at hl 0 rfl) ?_
  refine r_get C hw 0 rfl rfl in_X12 12 (by decide) fl_X12_192 rfl (v := .int (bI w)) rfl dX12_isDigit_1 ?_
  refine lv_if_ne (tgt := 26) C.1 C.2.1 dX12_isDigit_4 (by decide) (fun c_4 => ?_) (fun c_4 => ?_)
  · have b_4 := bI_ne0.mp c_4
    refine lv_iconst (v := 0) C.1 C.2.1 dX12_isDigit_26 (by decide) ?_
    exact r_iret C hw rfl rfl () (by simp [idB, b_4] <;> rfl) rfl (Nat.le_of_ble_eq_true rfl) (Nat.le_of_ble_eq_true rfl) dX12_isDigit_27
  · have b_4 := bI_eq0.mp c_4
    refine lv_aload_n C.1 C.2.1 dX12_isDigit_7 rfl (lv_at hl 0 rfl) ?_
    refine lv_iconst (v := 0) C.1 C.2.1 dX12_isDigit_8 (by decide) ?_
    refine r_vi C hw (k12_behind hF (mo := mo) (U := (mI (mI U 5 (nI t)) 6 (bI w))) (X := X) (t := t) rfl (n := n) hn1 hn (by omega) (k := 0) (by omega)) ml_X12_196 yf_X12_behind 0 rfl rfl (As := [.int 0]) rfl rfl ⟨Nat.le_of_ble_eq_true rfl, Nat.le_of_ble_eq_true rfl⟩ ⟨Nat.le_of_ble_eq_true rfl, Nat.le_of_ble_eq_true rfl⟩ hl.1 (Nat.le_of_ble_eq_true rfl) dX12_isDigit_9 (fun r_9 _ H locs hp_9 hw => ?_)
    obtain rfl : r_9 = beC U n t 0 := hp_9
    replace hw : WH G s (moW G mo (mI (mI U 5 (nI t)) 6 (bI w)) ++ X) H locs := hw
    refine lv_bipush (v := 48) C.1 C.2.1 dX12_isDigit_12 (by decide) ?_
    refine lv_bipush (v := 57) C.1 C.2.1 dX12_isDigit_14 (by decide) ?_
    refine r_si C hw (k12_in hF (X := moW G mo (mI (mI U 5 (nI t)) 6 (bI w)) ++ X) (beC U n t 0) 48 57) ml_X12_51 yf_X12_in (As := [.int (beC U n t 0), .int 48, .int 57]) rfl rfl ⟨Nat.le_of_ble_eq_true rfl, Nat.le_of_ble_eq_true rfl⟩ ⟨Nat.le_of_ble_eq_true rfl, Nat.le_of_ble_eq_true rfl⟩ hl.1 (Nat.le_of_ble_eq_true rfl) dX12_isDigit_16 (fun r_16 _ H locs hp_16 hw => ?_)
    obtain rfl : r_16 = bI (inR (beC U n t 0) 48 57) := hp_16
    replace hw : WH G s (moW G mo (mI (mI U 5 (nI t)) 6 (bI w)) ++ X) H locs := hw
    refine lv_if_eq (tgt := 26) C.1 C.2.1 dX12_isDigit_19 (by decide) (fun c_19 => ?_) (fun c_19 => ?_)
    · have b_19 := bI_eq0.mp c_19
      refine lv_iconst (v := 0) C.1 C.2.1 dX12_isDigit_26 (by decide) ?_
      exact r_iret C hw rfl rfl () (by simp [idB, b_4, b_19] <;> rfl) rfl (Nat.le_of_ble_eq_true rfl) (Nat.le_of_ble_eq_true rfl) dX12_isDigit_27
    · have b_19 := bI_ne0.mp c_19
      refine lv_iconst (v := 1) C.1 C.2.1 dX12_isDigit_22 (by decide) ?_
      refine lv_goto (tgt := 27) C.1 C.2.1 dX12_isDigit_23 (by decide) ?_
      exact r_iret C hw rfl rfl () (by simp [idB, b_4, b_19] <;> rfl) rfl (Nat.le_of_ble_eq_true rfl) (Nat.le_of_ble_eq_true rfl) dX12_isDigit_27

