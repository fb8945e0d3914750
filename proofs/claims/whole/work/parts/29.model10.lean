/-! The model: what it tells of orders and prices -/
set_option maxHeartbeats 4000000 in
set_option maxRecDepth 100000 in
theorem k12_tells {l : Launch} {G : Gx} (hF : SF l G) {mo : Nat → Nat} {U : MV_} {X : va_W} (hok : okF (U.2 0)) {k : Nat} (hk : k < 6) (x : Int32) : MI l G yX12_tells cX12_tells 4 .int 3 0 0 [.ref (mo 0), .int x, .int (nI k)] (moW G mo U ++ X) (fun r _ => r = teV (U.2 0) x k) (fun _ : Unit => moW G mo (mI U 2 (bI (!teB (U.2 0) x))) ++ X) := by
  refine mt_of hF (by decide) (Nat.le_of_ble_eq_true rfl) ?_
  intro p e s m below meth c C hin ls hl H locs hw
  have hl : lv_has ls 4 [(0, .ref (mo 0)), (1, .int x), (2, .int (nI k))] := hl
  refine lv_aload_n C.1 C.2.1 dX12_tells_0 rfl (lv_at hl 0 rfl) ?_
  refine lv_iload_n C.1 C.2.1 dX12_tells_1 rfl (lv_at hl 1 rfl) ?_
  refine r_vi C hw (k12_placeOf hF (mo := mo) (U := U) (X := X) (n := (nF (U.2 0))) hok.1 hok.2.1 x) ml_X12_117 yf_X12_placeOf 0 rfl rfl (As := [.int x]) rfl rfl ⟨Nat.le_of_ble_eq_true rfl, Nat.le_of_ble_eq_true rfl⟩ ⟨Nat.le_of_ble_eq_true rfl, Nat.le_of_ble_eq_true rfl⟩ hl.1 (Nat.le_of_ble_eq_true rfl) dX12_tells_2 (fun r_2 _ H locs hp_2 hw => ?_)
  obtain rfl : r_2 = oI (plF (U.2 0) x (nF (U.2 0))) := hp_2
  replace hw : WH G s (moW G mo U ++ X) H locs := hw
  refine lv_istore_n (lv' := [(3, .int (oI (plF (U.2 0) x (nF (U.2 0))))), (0, .ref (mo 0)), (1, .int x), (2, .int (nI k))]) C.1 C.2.1 dX12_tells_5 rfl hl (by decide) rfl (fun ls hl => ?_)
  refine lv_aload_n C.1 C.2.1 dX12_tells_6 rfl (lv_at hl 1 rfl) ?_
  refine lv_iload_n C.1 C.2.1 dX12_tells_7 rfl (lv_at hl 0 rfl) ?_
  refine lv_if_lt (tgt := 15) C.1 C.2.1 dX12_tells_8 (by decide) (fun c_8 => ?_) (fun c_8 => ?_)
  · have ho : plF (U.2 0) x (nF (U.2 0)) = none := (oI_ge (fun j hj => (pl_lt hok hj).2.2)).mp c_8
    refine lv_iconst (v := 0) C.1 C.2.1 dX12_tells_15 (by decide) ?_
    refine r_vi C hw (k12_isThere hF (mo := mo) (U := U) (X := X) false) ml_X12_142 yf_X12_isThere 0 rfl rfl (As := [.int 0]) rfl rfl ⟨Nat.le_of_ble_eq_true rfl, Nat.le_of_ble_eq_true rfl⟩ ⟨Nat.le_of_ble_eq_true rfl, Nat.le_of_ble_eq_true rfl⟩ hl.1 (Nat.le_of_ble_eq_true rfl) dX12_tells_16 (fun r_16 _ H locs hp_16 hw => ?_)
    obtain rfl : r_16 = bI false := hp_16
    replace hw : WH G s (moW G mo (mI U 2 (bI (!false))) ++ X) H locs := hw
    refine lv_if_eq (tgt := 31) C.1 C.2.1 dX12_tells_19 (by decide) (fun c_19 => ?_) (fun c_19 => absurd (by decide) c_19)
    refine lv_iconst (v := 0) C.1 C.2.1 dX12_tells_31 (by decide) ?_
    exact r_iret C hw rfl rfl () (by rw [teV, ho]) (by rw [teB, ho] <;> rfl) (Nat.le_of_ble_eq_true rfl) (Nat.le_of_ble_eq_true rfl) dX12_tells_32
  · obtain ⟨j, ho⟩ : ∃ j, plF (U.2 0) x (nF (U.2 0)) = some j := by cases hq : plF (U.2 0) x (nF (U.2 0)) with | none => exact absurd ((oI_ge (fun j hj => (pl_lt hok hj).2.2)).mpr hq) c_8 | some j => exact ⟨j, rfl⟩
    obtain ⟨hj1, hj2, hj3⟩ := pl_lt hok ho
    replace hl : lv_has ls 4 [(3, .int (nI j)), (0, .ref (mo 0)), (1, .int x), (2, .int (nI k))] := hl.to_eq (by rw [ho]; rfl)
    refine lv_iconst (v := 1) C.1 C.2.1 dX12_tells_11 (by decide) ?_
    refine lv_goto (tgt := 16) C.1 C.2.1 dX12_tells_12 (by decide) ?_
    refine r_vi C hw (k12_isThere hF (mo := mo) (U := U) (X := X) true) ml_X12_142 yf_X12_isThere 0 rfl rfl (As := [.int 1]) rfl rfl ⟨Nat.le_of_ble_eq_true rfl, Nat.le_of_ble_eq_true rfl⟩ ⟨Nat.le_of_ble_eq_true rfl, Nat.le_of_ble_eq_true rfl⟩ hl.1 (Nat.le_of_ble_eq_true rfl) dX12_tells_16 (fun r_16 _ H locs hp_16 hw => ?_)
    obtain rfl : r_16 = bI true := hp_16
    replace hw : WH G s (moW G mo (mI U 2 (bI (!true))) ++ X) H locs := hw
    refine lv_if_eq (tgt := 31) C.1 C.2.1 dX12_tells_19 (by decide) (fun c_19 => absurd c_19 (by decide)) (fun c_19 => ?_)
    refine lv_aload_n C.1 C.2.1 dX12_tells_22 rfl (lv_at hl 1 rfl) ?_
    refine lv_iload_n C.1 C.2.1 dX12_tells_23 rfl (lv_at hl 0 rfl) ?_
    refine lv_iload_n C.1 C.2.1 dX12_tells_24 rfl (lv_at hl 3 rfl) ?_
    refine r_vi C hw (k12_of hF (mo := mo) (U := (mI U 2 (bI (!true)))) (X := X) (i := j) (k := k) (by omega) (by omega)) ml_X12_55 yf_X12_of 0 rfl rfl (As := [.int (nI j), .int (nI k)]) rfl rfl ⟨Nat.le_of_ble_eq_true rfl, Nat.le_of_ble_eq_true rfl⟩ ⟨Nat.le_of_ble_eq_true rfl, Nat.le_of_ble_eq_true rfl⟩ hl.1 (Nat.le_of_ble_eq_true rfl) dX12_tells_25 (fun r_25 _ H locs hp_25 hw => ?_)
    obtain rfl : r_25 = oF (U.2 0) j k := hp_25
    replace hw : WH G s (moW G mo (mI U 2 (bI (!true))) ++ X) H locs := hw
    refine lv_goto (tgt := 32) C.1 C.2.1 dX12_tells_28 (by decide) ?_
    exact r_iret C hw rfl rfl () (by rw [teV, ho]) (by rw [teB, ho] <;> rfl) (Nat.le_of_ble_eq_true rfl) (Nat.le_of_ble_eq_true rfl) dX12_tells_32

set_option maxHeartbeats 4000000 in
set_option maxRecDepth 100000 in
theorem k12_stallOf {l : Launch} {G : Gx} (hF : SF l G) {mo : Nat → Nat} {U : MV_} {X : va_W} (hok : okF (U.2 0)) (x : Int32) : MI l G yX12_stallOf cX12_stallOf 2 .int 4 0 0 [.ref (mo 0), .int x] (moW G mo U ++ X) (fun r _ => r = teV (U.2 0) x 1) (fun _ : Unit => moW G mo (mI U 2 (bI (!teB (U.2 0) x))) ++ X) := by
  refine mt_of hF (by decide) (Nat.le_of_ble_eq_true rfl) ?_
  intro p e s m below meth c C hin ls hl H locs hw
  have hl : lv_has ls 2 [(0, .ref (mo 0)), (1, .int x)] := hl
  refine lv_aload_n C.1 C.2.1 dX12_stallOf_0 rfl (lv_at hl 0 rfl) ?_
  refine lv_iload_n C.1 C.2.1 dX12_stallOf_1 rfl (lv_at hl 1 rfl) ?_
  refine lv_iconst (v := 1) C.1 C.2.1 dX12_stallOf_2 (by decide) ?_
  refine r_vi C hw (k12_tells hF (mo := mo) (U := U) (X := X) hok (k := 1) (by decide) x) ml_X12_149 yf_X12_tells 0 rfl rfl (As := [.int x, .int 1]) rfl rfl ⟨Nat.le_of_ble_eq_true rfl, Nat.le_of_ble_eq_true rfl⟩ ⟨Nat.le_of_ble_eq_true rfl, Nat.le_of_ble_eq_true rfl⟩ hl.1 (Nat.le_of_ble_eq_true rfl) dX12_stallOf_3 (fun r_3 _ H locs hp_3 hw => ?_)
  obtain rfl : r_3 = teV (U.2 0) x 1 := hp_3
  replace hw : WH G s (moW G mo (mI U 2 (bI (!teB (U.2 0) x))) ++ X) H locs := hw
  exact r_iret C hw rfl rfl () (rfl) rfl (Nat.le_of_ble_eq_true rfl) (Nat.le_of_ble_eq_true rfl) dX12_stallOf_6

set_option maxHeartbeats 4000000 in
set_option maxRecDepth 100000 in
theorem k12_priceOf {l : Launch} {G : Gx} (hF : SF l G) {mo : Nat → Nat} {U : MV_} {X : va_W} (hok : okF (U.2 0)) (x : Int32) : MI l G yX12_priceOf cX12_priceOf 2 .int 4 0 0 [.ref (mo 0), .int x] (moW G mo U ++ X) (fun r _ => r = teV (U.2 0) x 3) (fun _ : Unit => moW G mo (mI U 2 (bI (!teB (U.2 0) x))) ++ X) := by
  refine mt_of hF (by decide) (Nat.le_of_ble_eq_true rfl) ?_
  intro p e s m below meth c C hin ls hl H locs hw
  have hl : lv_has ls 2 [(0, .ref (mo 0)), (1, .int x)] := hl
  refine lv_aload_n C.1 C.2.1 dX12_priceOf_0 rfl (lv_at hl 0 rfl) ?_
  refine lv_iload_n C.1 C.2.1 dX12_priceOf_1 rfl (lv_at hl 1 rfl) ?_
  refine lv_iconst (v := 3) C.1 C.2.1 dX12_priceOf_2 (by decide) ?_
  refine r_vi C hw (k12_tells hF (mo := mo) (U := U) (X := X) hok (k := 3) (by decide) x) ml_X12_149 yf_X12_tells 0 rfl rfl (As := [.int x, .int 3]) rfl rfl ⟨Nat.le_of_ble_eq_true rfl, Nat.le_of_ble_eq_true rfl⟩ ⟨Nat.le_of_ble_eq_true rfl, Nat.le_of_ble_eq_true rfl⟩ hl.1 (Nat.le_of_ble_eq_true rfl) dX12_priceOf_3 (fun r_3 _ H locs hp_3 hw => ?_)
  obtain rfl : r_3 = teV (U.2 0) x 3 := hp_3
  replace hw : WH G s (moW G mo (mI U 2 (bI (!teB (U.2 0) x))) ++ X) H locs := hw
  exact r_iret C hw rfl rfl () (rfl) rfl (Nat.le_of_ble_eq_true rfl) (Nat.le_of_ble_eq_true rfl) dX12_priceOf_6

set_option maxHeartbeats 4000000 in
set_option maxRecDepth 100000 in
theorem k12_quantityOf {l : Launch} {G : Gx} (hF : SF l G) {mo : Nat → Nat} {U : MV_} {X : va_W} (hok : okF (U.2 0)) (x : Int32) : MI l G yX12_quantityOf cX12_quantityOf 2 .int 4 0 0 [.ref (mo 0), .int x] (moW G mo U ++ X) (fun r _ => r = teV (U.2 0) x 4) (fun _ : Unit => moW G mo (mI U 2 (bI (!teB (U.2 0) x))) ++ X) := by
  refine mt_of hF (by decide) (Nat.le_of_ble_eq_true rfl) ?_
  intro p e s m below meth c C hin ls hl H locs hw
  have hl : lv_has ls 2 [(0, .ref (mo 0)), (1, .int x)] := hl
  refine lv_aload_n C.1 C.2.1 dX12_quantityOf_0 rfl (lv_at hl 0 rfl) ?_
  refine lv_iload_n C.1 C.2.1 dX12_quantityOf_1 rfl (lv_at hl 1 rfl) ?_
  refine lv_iconst (v := 4) C.1 C.2.1 dX12_quantityOf_2 (by decide) ?_
  refine r_vi C hw (k12_tells hF (mo := mo) (U := U) (X := X) hok (k := 4) (by decide) x) ml_X12_149 yf_X12_tells 0 rfl rfl (As := [.int x, .int 4]) rfl rfl ⟨Nat.le_of_ble_eq_true rfl, Nat.le_of_ble_eq_true rfl⟩ ⟨Nat.le_of_ble_eq_true rfl, Nat.le_of_ble_eq_true rfl⟩ hl.1 (Nat.le_of_ble_eq_true rfl) dX12_quantityOf_3 (fun r_3 _ H locs hp_3 hw => ?_)
  obtain rfl : r_3 = teV (U.2 0) x 4 := hp_3
  replace hw : WH G s (moW G mo (mI U 2 (bI (!teB (U.2 0) x))) ++ X) H locs := hw
  exact r_iret C hw rfl rfl () (rfl) rfl (Nat.le_of_ble_eq_true rfl) (Nat.le_of_ble_eq_true rfl) dX12_quantityOf_6

set_option maxHeartbeats 4000000 in
set_option maxRecDepth 100000 in
theorem k12_isBuying {l : Launch} {G : Gx} (hF : SF l G) {mo : Nat → Nat} {U : MV_} {X : va_W} (hok : okF (U.2 0)) (x : Int32) : MI l G yX12_isBuying cX12_isBuying 2 .boolean 4 0 0 [.ref (mo 0), .int x] (moW G mo U ++ X) (fun r _ => r = bI (decide (teV (U.2 0) x 2 = 1))) (fun _ : Unit => moW G mo (mI U 2 (bI (!teB (U.2 0) x))) ++ X) := by
  refine mt_of hF (by decide) (Nat.le_of_ble_eq_true rfl) ?_
  intro p e s m below meth c C hin ls hl H locs hw
  have hl : lv_has ls 2 [(0, .ref (mo 0)), (1, .int x)] := hl
  refine lv_aload_n C.1 C.2.1 dX12_isBuying_0 rfl (lv_at hl 0 rfl) ?_
  refine lv_iload_n C.1 C.2.1 dX12_isBuying_1 rfl (lv_at hl 1 rfl) ?_
  refine lv_iconst (v := 2) C.1 C.2.1 dX12_isBuying_2 (by decide) ?_
  refine r_vi C hw (k12_tells hF (mo := mo) (U := U) (X := X) hok (k := 2) (by decide) x) ml_X12_149 yf_X12_tells 0 rfl rfl (As := [.int x, .int 2]) rfl rfl ⟨Nat.le_of_ble_eq_true rfl, Nat.le_of_ble_eq_true rfl⟩ ⟨Nat.le_of_ble_eq_true rfl, Nat.le_of_ble_eq_true rfl⟩ hl.1 (Nat.le_of_ble_eq_true rfl) dX12_isBuying_3 (fun r_3 _ H locs hp_3 hw => ?_)
  obtain rfl : r_3 = teV (U.2 0) x 2 := hp_3
  replace hw : WH G s (moW G mo (mI U 2 (bI (!teB (U.2 0) x))) ++ X) H locs := hw
  refine lv_iconst (v := 1) C.1 C.2.1 dX12_isBuying_6 (by decide) ?_
  refine lv_icmp_ne (tgt := 14) C.1 C.2.1 dX12_isBuying_7 (by decide) (fun c_7 => ?_) (fun c_7 => ?_)
  · refine lv_iconst (v := 0) C.1 C.2.1 dX12_isBuying_14 (by decide) ?_
    exact r_iret C hw rfl rfl () (by simp [bI, c_7]) rfl (Nat.le_of_ble_eq_true rfl) (Nat.le_of_ble_eq_true rfl) dX12_isBuying_15
  · refine lv_iconst (v := 1) C.1 C.2.1 dX12_isBuying_10 (by decide) ?_
    refine lv_goto (tgt := 15) C.1 C.2.1 dX12_isBuying_11 (by decide) ?_
    exact r_iret C hw rfl rfl () (by simp [bI, c_7]) rfl (Nat.le_of_ble_eq_true rfl) (Nat.le_of_ble_eq_true rfl) dX12_isBuying_15

def miT (f : Nat → Int32) (x : Int32) : Int32 := if bI (!teB f x) ≤ 0 then (if teV f x 5 = 0 then 2 else 0) else 1
set_option maxHeartbeats 4000000 in
set_option maxRecDepth 100000 in
theorem k12_minutesLeft {l : Launch} {G : Gx} (hF : SF l G) {mo : Nat → Nat} {U : MV_} {X : va_W} (hok : okF (U.2 0)) (x : Int32) : MI l G yX12_minutesLeft cX12_minutesLeft 3 .int 4 0 0 [.ref (mo 0), .int x] (moW G mo U ++ X) (fun r _ => r = teV (U.2 0) x 5) (fun _ : Unit => moW G mo (mI U 2 (miT (U.2 0) x)) ++ X) := by
  refine mt_of hF (by decide) (Nat.le_of_ble_eq_true rfl) ?_
  intro p e s m below meth c C hin ls hl H locs hw
  have hl : lv_has ls 3 [(0, .ref (mo 0)), (1, .int x)] := hl
  refine lv_aload_n C.1 C.2.1 dX12_minutesLeft_0 rfl (lv_at hl 0 rfl) ?_
  refine lv_iload_n C.1 C.2.1 dX12_minutesLeft_1 rfl (lv_at hl 1 rfl) ?_
  refine lv_iconst (v := 5) C.1 C.2.1 dX12_minutesLeft_2 (by decide) ?_
  refine r_vi C hw (k12_tells hF (mo := mo) (U := U) (X := X) hok (k := 5) (by decide) x) ml_X12_149 yf_X12_tells 0 rfl rfl (As := [.int x, .int 5]) rfl rfl ⟨Nat.le_of_ble_eq_true rfl, Nat.le_of_ble_eq_true rfl⟩ ⟨Nat.le_of_ble_eq_true rfl, Nat.le_of_ble_eq_true rfl⟩ hl.1 (Nat.le_of_ble_eq_true rfl) dX12_minutesLeft_3 (fun r_3 _ H locs hp_3 hw => ?_)
  obtain rfl : r_3 = teV (U.2 0) x 5 := hp_3
  replace hw : WH G s (moW G mo (mI U 2 (bI (!teB (U.2 0) x))) ++ X) H locs := hw
  refine lv_istore_n (lv' := [(2, .int (teV (U.2 0) x 5)), (0, .ref (mo 0)), (1, .int x)]) C.1 C.2.1 dX12_minutesLeft_6 rfl hl (by decide) rfl (fun ls hl => ?_)
  refine lv_aload_n C.1 C.2.1 dX12_minutesLeft_7 rfl (lv_at hl 1 rfl) ?_
  refine lv_aload_n C.1 C.2.1 dX12_minutesLeft_8 rfl (lv_at hl 1 rfl) ?_
  refine r_get C hw 0 rfl rfl in_X12 6 (by decide) fl_X12_39 rfl (v := .int (bI (!teB (U.2 0) x))) rfl dX12_minutesLeft_9 ?_
  refine lv_if_le (tgt := 19) C.1 C.2.1 dX12_minutesLeft_12 (by decide) (fun c_12 => ?_) (fun c_12 => ?_)
  · refine lv_iload_n C.1 C.2.1 dX12_minutesLeft_19 rfl (lv_at hl 0 rfl) ?_
    refine lv_if_ne (tgt := 27) C.1 C.2.1 dX12_minutesLeft_20 (by decide) (fun c_20 => ?_) (fun c_20 => ?_)
    · refine lv_iconst (v := 0) C.1 C.2.1 dX12_minutesLeft_27 (by decide) ?_
      refine r_put C hw 0 rfl rfl in_X12 tyX12 tyX12_ok nmX12 6 (by decide) fl_X12_39 rfl rfl rfl rfl (Nat.le_of_ble_eq_true rfl) (w' := moW G mo (mI (mI U 2 (bI (!teB (U.2 0) x))) 2 0) ++ X) rfl dX12_minutesLeft_28 (fun H locs hw => ?_)
      refine lv_iload_n C.1 C.2.1 dX12_minutesLeft_31 rfl (lv_at hl 0 rfl) ?_
      exact r_iret C hw rfl rfl () (rfl) (by rw [miT, if_pos c_12, if_neg c_20] <;> rfl) (Nat.le_of_ble_eq_true rfl) (Nat.le_of_ble_eq_true rfl) dX12_minutesLeft_32
    · refine lv_iconst (v := 2) C.1 C.2.1 dX12_minutesLeft_23 (by decide) ?_
      refine lv_goto (tgt := 28) C.1 C.2.1 dX12_minutesLeft_24 (by decide) ?_
      refine r_put C hw 0 rfl rfl in_X12 tyX12 tyX12_ok nmX12 6 (by decide) fl_X12_39 rfl rfl rfl rfl (Nat.le_of_ble_eq_true rfl) (w' := moW G mo (mI (mI U 2 (bI (!teB (U.2 0) x))) 2 2) ++ X) rfl dX12_minutesLeft_28 (fun H locs hw => ?_)
      refine lv_iload_n C.1 C.2.1 dX12_minutesLeft_31 rfl (lv_at hl 0 rfl) ?_
      exact r_iret C hw rfl rfl () (rfl) (by rw [miT, if_pos c_12, if_pos c_20] <;> rfl) (Nat.le_of_ble_eq_true rfl) (Nat.le_of_ble_eq_true rfl) dX12_minutesLeft_32
  · refine lv_iconst (v := 1) C.1 C.2.1 dX12_minutesLeft_15 (by decide) ?_
    refine lv_goto (tgt := 28) C.1 C.2.1 dX12_minutesLeft_16 (by decide) ?_
    refine r_put C hw 0 rfl rfl in_X12 tyX12 tyX12_ok nmX12 6 (by decide) fl_X12_39 rfl rfl rfl rfl (Nat.le_of_ble_eq_true rfl) (w' := moW G mo (mI (mI U 2 (bI (!teB (U.2 0) x))) 2 1) ++ X) rfl dX12_minutesLeft_28 (fun H locs hw => ?_)
    refine lv_iload_n C.1 C.2.1 dX12_minutesLeft_31 rfl (lv_at hl 0 rfl) ?_
    exact r_iret C hw rfl rfl () (rfl) (by rw [miT, if_neg c_12] <;> rfl) (Nat.le_of_ble_eq_true rfl) (Nat.le_of_ble_eq_true rfl) dX12_minutesLeft_32

set_option maxHeartbeats 4000000 in
set_option maxRecDepth 100000 in
theorem k12_asksBest {l : Launch} {G : Gx} (hF : SF l G) {mo : Nat → Nat} {U : MV_} {X : va_W} (hok : okF (U.2 0)) (b : Bool) : MI l G yX12_asksBest cX12_asksBest 3 .int 3 0 0 [.ref (mo 0), .int (bI b)] (moW G mo U ++ X) (fun r _ => r = beV (U.2 0) b 0) (fun _ : Unit => moW G mo (mI U 2 (bI (!beB (U.2 0) b))) ++ X) := by
  refine mt_of hF (by decide) (Nat.le_of_ble_eq_true rfl) ?_
  intro p e s m below meth c C hin ls hl H locs hw
  have hl : lv_has ls 3 [(0, .ref (mo 0)), (1, .int (bI b))] := hl
  refine lv_aload_n C.1 C.2.1 dX12_asksBest_0 rfl (lv_at hl 0 rfl) ?_
  refine lv_iload_n C.1 C.2.1 dX12_asksBest_1 rfl (lv_at hl 1 rfl) ?_
  refine r_vi C hw (k12_best hF (mo := mo) (U := U) (X := X) (n := (nF (U.2 0))) hok.1 hok.2.1 b) ml_X12_70 yf_X12_best 0 rfl rfl (As := [.int (bI b)]) rfl rfl ⟨Nat.le_of_ble_eq_true rfl, Nat.le_of_ble_eq_true rfl⟩ ⟨Nat.le_of_ble_eq_true rfl, Nat.le_of_ble_eq_true rfl⟩ hl.1 (Nat.le_of_ble_eq_true rfl) dX12_asksBest_2 (fun r_2 _ H locs hp_2 hw => ?_)
  obtain rfl : r_2 = oI (mbF (U.2 0) b (nF (U.2 0))) := hp_2
  replace hw : WH G s (moW G mo U ++ X) H locs := hw
  refine lv_istore_n (lv' := [(2, .int (oI (mbF (U.2 0) b (nF (U.2 0))))), (0, .ref (mo 0)), (1, .int (bI b))]) C.1 C.2.1 dX12_asksBest_5 rfl hl (by decide) rfl (fun ls hl => ?_)
  refine lv_aload_n C.1 C.2.1 dX12_asksBest_6 rfl (lv_at hl 1 rfl) ?_
  refine lv_iload_n C.1 C.2.1 dX12_asksBest_7 rfl (lv_at hl 0 rfl) ?_
  refine lv_if_lt (tgt := 15) C.1 C.2.1 dX12_asksBest_8 (by decide) (fun c_8 => ?_) (fun c_8 => ?_)
  · have ho : mbF (U.2 0) b (nF (U.2 0)) = none := (oI_ge (fun j hj => (mb_lt3 hok hj).2.2)).mp c_8
    refine lv_iconst (v := 0) C.1 C.2.1 dX12_asksBest_15 (by decide) ?_
    refine r_vi C hw (k12_isThere hF (mo := mo) (U := U) (X := X) false) ml_X12_142 yf_X12_isThere 0 rfl rfl (As := [.int 0]) rfl rfl ⟨Nat.le_of_ble_eq_true rfl, Nat.le_of_ble_eq_true rfl⟩ ⟨Nat.le_of_ble_eq_true rfl, Nat.le_of_ble_eq_true rfl⟩ hl.1 (Nat.le_of_ble_eq_true rfl) dX12_asksBest_16 (fun r_16 _ H locs hp_16 hw => ?_)
    obtain rfl : r_16 = bI false := hp_16
    replace hw : WH G s (moW G mo (mI U 2 (bI (!false))) ++ X) H locs := hw
    refine lv_if_eq (tgt := 31) C.1 C.2.1 dX12_asksBest_19 (by decide) (fun c_19 => ?_) (fun c_19 => absurd (by decide) c_19)
    refine lv_iconst (v := 0) C.1 C.2.1 dX12_asksBest_31 (by decide) ?_
    exact r_iret C hw rfl rfl () (by rw [beV, ho]) (by rw [beB, ho] <;> rfl) (Nat.le_of_ble_eq_true rfl) (Nat.le_of_ble_eq_true rfl) dX12_asksBest_32
  · obtain ⟨j, ho⟩ : ∃ j, mbF (U.2 0) b (nF (U.2 0)) = some j := by cases hq : mbF (U.2 0) b (nF (U.2 0)) with | none => exact absurd ((oI_ge (fun j hj => (mb_lt3 hok hj).2.2)).mpr hq) c_8 | some j => exact ⟨j, rfl⟩
    obtain ⟨hj1, hj2, hj3⟩ := mb_lt3 hok ho
    replace hl : lv_has ls 3 [(2, .int (nI j)), (0, .ref (mo 0)), (1, .int (bI b))] := hl.to_eq (by rw [ho]; rfl)
    refine lv_iconst (v := 1) C.1 C.2.1 dX12_asksBest_11 (by decide) ?_
    refine lv_goto (tgt := 16) C.1 C.2.1 dX12_asksBest_12 (by decide) ?_
    refine r_vi C hw (k12_isThere hF (mo := mo) (U := U) (X := X) true) ml_X12_142 yf_X12_isThere 0 rfl rfl (As := [.int 1]) rfl rfl ⟨Nat.le_of_ble_eq_true rfl, Nat.le_of_ble_eq_true rfl⟩ ⟨Nat.le_of_ble_eq_true rfl, Nat.le_of_ble_eq_true rfl⟩ hl.1 (Nat.le_of_ble_eq_true rfl) dX12_asksBest_16 (fun r_16 _ H locs hp_16 hw => ?_)
    obtain rfl : r_16 = bI true := hp_16
    replace hw : WH G s (moW G mo (mI U 2 (bI (!true))) ++ X) H locs := hw
    refine lv_if_eq (tgt := 31) C.1 C.2.1 dX12_asksBest_19 (by decide) (fun c_19 => absurd c_19 (by decide)) (fun c_19 => ?_)
    refine lv_aload_n C.1 C.2.1 dX12_asksBest_22 rfl (lv_at hl 1 rfl) ?_
    refine lv_iload_n C.1 C.2.1 dX12_asksBest_23 rfl (lv_at hl 0 rfl) ?_
    refine lv_iconst (v := 0) C.1 C.2.1 dX12_asksBest_24 (by decide) ?_
    refine r_vi C hw (k12_of hF (mo := mo) (U := (mI U 2 (bI (!true)))) (X := X) (i := j) (k := 0) (by omega) (by omega)) ml_X12_55 yf_X12_of 0 rfl rfl (As := [.int (nI j), .int 0]) rfl rfl ⟨Nat.le_of_ble_eq_true rfl, Nat.le_of_ble_eq_true rfl⟩ ⟨Nat.le_of_ble_eq_true rfl, Nat.le_of_ble_eq_true rfl⟩ hl.1 (Nat.le_of_ble_eq_true rfl) dX12_asksBest_25 (fun r_25 _ H locs hp_25 hw => ?_)
    obtain rfl : r_25 = oF (U.2 0) j 0 := hp_25
    replace hw : WH G s (moW G mo (mI U 2 (bI (!true))) ++ X) H locs := hw
    refine lv_goto (tgt := 32) C.1 C.2.1 dX12_asksBest_28 (by decide) ?_
    exact r_iret C hw rfl rfl () (by rw [beV, ho]) (by rw [beB, ho] <;> rfl) (Nat.le_of_ble_eq_true rfl) (Nat.le_of_ble_eq_true rfl) dX12_asksBest_32

set_option maxHeartbeats 4000000 in
set_option maxRecDepth 100000 in
theorem k12_bestBuy {l : Launch} {G : Gx} (hF : SF l G) {mo : Nat → Nat} {U : MV_} {X : va_W} (hok : okF (U.2 0)) : MI l G yX12_bestBuy cX12_bestBuy 1 .int 4 0 0 [.ref (mo 0)] (moW G mo U ++ X) (fun r _ => r = beV (U.2 0) true 0) (fun _ : Unit => moW G mo (mI U 2 (bI (!beB (U.2 0) true))) ++ X) := by
  refine mt_of hF (by decide) (Nat.le_of_ble_eq_true rfl) ?_
  intro p e s m below meth c C hin ls hl H locs hw
  have hl : lv_has ls 1 [(0, .ref (mo 0))] := hl
  refine lv_aload_n C.1 C.2.1 dX12_bestBuy_0 rfl (lv_at hl 0 rfl) ?_
  refine lv_iconst (v := 1) C.1 C.2.1 dX12_bestBuy_1 (by decide) ?_
  refine r_vi C hw (k12_asksBest hF (mo := mo) (U := U) (X := X) hok true) ml_X12_152 yf_X12_asksBest 0 rfl rfl (As := [.int 1]) rfl rfl ⟨Nat.le_of_ble_eq_true rfl, Nat.le_of_ble_eq_true rfl⟩ ⟨Nat.le_of_ble_eq_true rfl, Nat.le_of_ble_eq_true rfl⟩ hl.1 (Nat.le_of_ble_eq_true rfl) dX12_bestBuy_2 (fun r_2 _ H locs hp_2 hw => ?_)
  obtain rfl : r_2 = beV (U.2 0) true 0 := hp_2
  replace hw : WH G s (moW G mo (mI U 2 (bI (!beB (U.2 0) true))) ++ X) H locs := hw
  exact r_iret C hw rfl rfl () (rfl) rfl (Nat.le_of_ble_eq_true rfl) (Nat.le_of_ble_eq_true rfl) dX12_bestBuy_5

set_option maxHeartbeats 4000000 in
set_option maxRecDepth 100000 in
theorem k12_bestSell {l : Launch} {G : Gx} (hF : SF l G) {mo : Nat → Nat} {U : MV_} {X : va_W} (hok : okF (U.2 0)) : MI l G yX12_bestSell cX12_bestSell 1 .int 4 0 0 [.ref (mo 0)] (moW G mo U ++ X) (fun r _ => r = beV (U.2 0) false 0) (fun _ : Unit => moW G mo (mI U 2 (bI (!beB (U.2 0) false))) ++ X) := by
  refine mt_of hF (by decide) (Nat.le_of_ble_eq_true rfl) ?_
  intro p e s m below meth c C hin ls hl H locs hw
  have hl : lv_has ls 1 [(0, .ref (mo 0))] := hl
  refine lv_aload_n C.1 C.2.1 dX12_bestSell_0 rfl (lv_at hl 0 rfl) ?_
  refine lv_iconst (v := 0) C.1 C.2.1 dX12_bestSell_1 (by decide) ?_
  refine r_vi C hw (k12_asksBest hF (mo := mo) (U := U) (X := X) hok false) ml_X12_152 yf_X12_asksBest 0 rfl rfl (As := [.int 0]) rfl rfl ⟨Nat.le_of_ble_eq_true rfl, Nat.le_of_ble_eq_true rfl⟩ ⟨Nat.le_of_ble_eq_true rfl, Nat.le_of_ble_eq_true rfl⟩ hl.1 (Nat.le_of_ble_eq_true rfl) dX12_bestSell_2 (fun r_2 _ H locs hp_2 hw => ?_)
  obtain rfl : r_2 = beV (U.2 0) false 0 := hp_2
  replace hw : WH G s (moW G mo (mI U 2 (bI (!beB (U.2 0) false))) ++ X) H locs := hw
  exact r_iret C hw rfl rfl () (rfl) rfl (Nat.le_of_ble_eq_true rfl) (Nat.le_of_ble_eq_true rfl) dX12_bestSell_5

def spB (f : Nat → Int32) : Bool := beB f true && beB f false
def spV (f : Nat → Int32) : Int32 := if spB f = true then beV f false 3 - beV f true 3 else 0
set_option maxHeartbeats 4000000 in
set_option maxRecDepth 100000 in
theorem k12_spread {l : Launch} {G : Gx} (hF : SF l G) {mo : Nat → Nat} {U : MV_} {X : va_W} (hok : okF (U.2 0)) : MI l G yX12_spread cX12_spread 3 .int 3 0 0 [.ref (mo 0)] (moW G mo U ++ X) (fun r _ => r = spV (U.2 0)) (fun _ : Unit => moW G mo (mI U 2 (bI (!spB (U.2 0)))) ++ X) := by
  refine mt_of hF (by decide) (Nat.le_of_ble_eq_true rfl) ?_
  intro p e s m below meth c C hin ls hl H locs hw
  have hl : lv_has ls 3 [(0, .ref (mo 0))] := hl
  refine lv_aload_n C.1 C.2.1 dX12_spread_0 rfl (lv_at hl 0 rfl) ?_
  refine lv_iconst (v := 1) C.1 C.2.1 dX12_spread_1 (by decide) ?_
  refine r_vi C hw (k12_best hF (mo := mo) (U := U) (X := X) (n := (nF (U.2 0))) hok.1 hok.2.1 true) ml_X12_70 yf_X12_best 0 rfl rfl (As := [.int 1]) rfl rfl ⟨Nat.le_of_ble_eq_true rfl, Nat.le_of_ble_eq_true rfl⟩ ⟨Nat.le_of_ble_eq_true rfl, Nat.le_of_ble_eq_true rfl⟩ hl.1 (Nat.le_of_ble_eq_true rfl) dX12_spread_2 (fun r_2 _ H locs hp_2 hw => ?_)
  obtain rfl : r_2 = oI (mbF (U.2 0) true (nF (U.2 0))) := hp_2
  replace hw : WH G s (moW G mo U ++ X) H locs := hw
  refine lv_istore_n (lv' := [(1, .int (oI (mbF (U.2 0) true (nF (U.2 0))))), (0, .ref (mo 0))]) C.1 C.2.1 dX12_spread_5 rfl hl (by decide) rfl (fun ls hl => ?_)
  refine lv_aload_n C.1 C.2.1 dX12_spread_6 rfl (lv_at hl 1 rfl) ?_
  refine lv_iconst (v := 0) C.1 C.2.1 dX12_spread_7 (by decide) ?_
  refine r_vi C hw (k12_best hF (mo := mo) (U := U) (X := X) (n := (nF (U.2 0))) hok.1 hok.2.1 false) ml_X12_70 yf_X12_best 0 rfl rfl (As := [.int 0]) rfl rfl ⟨Nat.le_of_ble_eq_true rfl, Nat.le_of_ble_eq_true rfl⟩ ⟨Nat.le_of_ble_eq_true rfl, Nat.le_of_ble_eq_true rfl⟩ hl.1 (Nat.le_of_ble_eq_true rfl) dX12_spread_8 (fun r_8 _ H locs hp_8 hw => ?_)
  obtain rfl : r_8 = oI (mbF (U.2 0) false (nF (U.2 0))) := hp_8
  replace hw : WH G s (moW G mo U ++ X) H locs := hw
  refine lv_istore_n (lv' := [(2, .int (oI (mbF (U.2 0) false (nF (U.2 0))))), (1, .int (oI (mbF (U.2 0) true (nF (U.2 0))))), (0, .ref (mo 0))]) C.1 C.2.1 dX12_spread_11 rfl hl (by decide) rfl (fun ls hl => ?_)
  refine lv_aload_n C.1 C.2.1 dX12_spread_12 rfl (lv_at hl 2 rfl) ?_
  refine lv_iload_n C.1 C.2.1 dX12_spread_13 rfl (lv_at hl 1 rfl) ?_
  refine lv_if_lt (tgt := 25) C.1 C.2.1 dX12_spread_14 (by decide) (fun c_14 => ?_) (fun c_14 => ?_)
  · have ho : mbF (U.2 0) true (nF (U.2 0)) = none := (oI_ge (fun j hj => (mb_lt3 hok hj).2.2)).mp c_14
    refine lv_iconst (v := 0) C.1 C.2.1 dX12_spread_25 (by decide) ?_
    refine r_vi C hw (k12_isThere hF (mo := mo) (U := U) (X := X) false) ml_X12_142 yf_X12_isThere 0 rfl rfl (As := [.int 0]) rfl rfl ⟨Nat.le_of_ble_eq_true rfl, Nat.le_of_ble_eq_true rfl⟩ ⟨Nat.le_of_ble_eq_true rfl, Nat.le_of_ble_eq_true rfl⟩ hl.1 (Nat.le_of_ble_eq_true rfl) dX12_spread_26 (fun r_26 _ H locs hp_26 hw => ?_)
    obtain rfl : r_26 = bI false := hp_26
    replace hw : WH G s (moW G mo (mI U 2 (bI (!false))) ++ X) H locs := hw
    refine lv_if_eq (tgt := 48) C.1 C.2.1 dX12_spread_29 (by decide) (fun c_29 => ?_) (fun c_29 => absurd (by decide) c_29)
    refine lv_iconst (v := 0) C.1 C.2.1 dX12_spread_48 (by decide) ?_
    have hz : spB (U.2 0) = false := by rw [spB, beB, ho]; rfl
    exact r_iret C hw rfl rfl () (by rw [spV, hz] <;> rfl) (by rw [hz] <;> rfl) (Nat.le_of_ble_eq_true rfl) (Nat.le_of_ble_eq_true rfl) dX12_spread_49
  · obtain ⟨j, ho⟩ : ∃ j, mbF (U.2 0) true (nF (U.2 0)) = some j := by cases hq : mbF (U.2 0) true (nF (U.2 0)) with | none => exact absurd ((oI_ge (fun j hj => (mb_lt3 hok hj).2.2)).mpr hq) c_14 | some j => exact ⟨j, rfl⟩
    obtain ⟨hj1, hj2, hj3⟩ := mb_lt3 hok ho
    replace hl : lv_has ls 3 [(2, .int (oI (mbF (U.2 0) false (nF (U.2 0))))), (1, .int (nI j)), (0, .ref (mo 0))] := hl.to_eq (by rw [ho]; rfl)
    refine lv_iload_n C.1 C.2.1 dX12_spread_17 rfl (lv_at hl 0 rfl) ?_
    refine lv_if_lt (tgt := 25) C.1 C.2.1 dX12_spread_18 (by decide) (fun c_18 => ?_) (fun c_18 => ?_)
    · have ho2 : mbF (U.2 0) false (nF (U.2 0)) = none := (oI_ge (fun j hj => (mb_lt3 hok hj).2.2)).mp c_18
      refine lv_iconst (v := 0) C.1 C.2.1 dX12_spread_25 (by decide) ?_
      refine r_vi C hw (k12_isThere hF (mo := mo) (U := U) (X := X) false) ml_X12_142 yf_X12_isThere 0 rfl rfl (As := [.int 0]) rfl rfl ⟨Nat.le_of_ble_eq_true rfl, Nat.le_of_ble_eq_true rfl⟩ ⟨Nat.le_of_ble_eq_true rfl, Nat.le_of_ble_eq_true rfl⟩ hl.1 (Nat.le_of_ble_eq_true rfl) dX12_spread_26 (fun r_26 _ H locs hp_26 hw => ?_)
      obtain rfl : r_26 = bI false := hp_26
      replace hw : WH G s (moW G mo (mI U 2 (bI (!false))) ++ X) H locs := hw
      refine lv_if_eq (tgt := 48) C.1 C.2.1 dX12_spread_29 (by decide) (fun c_29 => ?_) (fun c_29 => absurd (by decide) c_29)
      refine lv_iconst (v := 0) C.1 C.2.1 dX12_spread_48 (by decide) ?_
      have hz : spB (U.2 0) = false := by rw [spB, beB, beB, ho, ho2]; rfl
      exact r_iret C hw rfl rfl () (by rw [spV, hz] <;> rfl) (by rw [hz] <;> rfl) (Nat.le_of_ble_eq_true rfl) (Nat.le_of_ble_eq_true rfl) dX12_spread_49
    · obtain ⟨k, ho2⟩ : ∃ j, mbF (U.2 0) false (nF (U.2 0)) = some j := by cases hq : mbF (U.2 0) false (nF (U.2 0)) with | none => exact absurd ((oI_ge (fun j hj => (mb_lt3 hok hj).2.2)).mpr hq) c_18 | some j => exact ⟨j, rfl⟩
      obtain ⟨hk1, hk2, hk3⟩ := mb_lt3 hok ho2
      replace hl : lv_has ls 3 [(2, .int (nI k)), (1, .int (nI j)), (0, .ref (mo 0))] := hl.to_eq (by rw [ho2]; rfl)
      refine lv_iconst (v := 1) C.1 C.2.1 dX12_spread_21 (by decide) ?_
      refine lv_goto (tgt := 26) C.1 C.2.1 dX12_spread_22 (by decide) ?_
      refine r_vi C hw (k12_isThere hF (mo := mo) (U := U) (X := X) true) ml_X12_142 yf_X12_isThere 0 rfl rfl (As := [.int 1]) rfl rfl ⟨Nat.le_of_ble_eq_true rfl, Nat.le_of_ble_eq_true rfl⟩ ⟨Nat.le_of_ble_eq_true rfl, Nat.le_of_ble_eq_true rfl⟩ hl.1 (Nat.le_of_ble_eq_true rfl) dX12_spread_26 (fun r_26 _ H locs hp_26 hw => ?_)
      obtain rfl : r_26 = bI true := hp_26
      replace hw : WH G s (moW G mo (mI U 2 (bI (!true))) ++ X) H locs := hw
      refine lv_if_eq (tgt := 48) C.1 C.2.1 dX12_spread_29 (by decide) (fun c_29 => absurd c_29 (by decide)) (fun c_29 => ?_)
      refine lv_aload_n C.1 C.2.1 dX12_spread_32 rfl (lv_at hl 2 rfl) ?_
      refine lv_iload_n C.1 C.2.1 dX12_spread_33 rfl (lv_at hl 0 rfl) ?_
      refine lv_iconst (v := 3) C.1 C.2.1 dX12_spread_34 (by decide) ?_
      refine r_vi C hw (k12_of hF (mo := mo) (U := (mI U 2 (bI (!true)))) (X := X) (i := k) (k := 3) (by omega) (by omega)) ml_X12_55 yf_X12_of 0 rfl rfl (As := [.int (nI k), .int 3]) rfl rfl ⟨Nat.le_of_ble_eq_true rfl, Nat.le_of_ble_eq_true rfl⟩ ⟨Nat.le_of_ble_eq_true rfl, Nat.le_of_ble_eq_true rfl⟩ hl.1 (Nat.le_of_ble_eq_true rfl) dX12_spread_35 (fun r_35 _ H locs hp_35 hw => ?_)
      obtain rfl : r_35 = oF (U.2 0) k 3 := hp_35
      replace hw : WH G s (moW G mo (mI U 2 (bI (!true))) ++ X) H locs := hw
      refine lv_aload_n C.1 C.2.1 dX12_spread_38 rfl (lv_at hl 2 rfl) ?_
      refine lv_iload_n C.1 C.2.1 dX12_spread_39 rfl (lv_at hl 1 rfl) ?_
      refine lv_iconst (v := 3) C.1 C.2.1 dX12_spread_40 (by decide) ?_
      refine r_vi C hw (k12_of hF (mo := mo) (U := (mI U 2 (bI (!true)))) (X := X) (i := j) (k := 3) (by omega) (by omega)) ml_X12_55 yf_X12_of 0 rfl rfl (As := [.int (nI j), .int 3]) rfl rfl ⟨Nat.le_of_ble_eq_true rfl, Nat.le_of_ble_eq_true rfl⟩ ⟨Nat.le_of_ble_eq_true rfl, Nat.le_of_ble_eq_true rfl⟩ hl.1 (Nat.le_of_ble_eq_true rfl) dX12_spread_41 (fun r_41 _ H locs hp_41 hw => ?_)
      obtain rfl : r_41 = oF (U.2 0) j 3 := hp_41
      replace hw : WH G s (moW G mo (mI U 2 (bI (!true))) ++ X) H locs := hw
      refine lv_isub C.1 C.2.1 dX12_spread_44 ?_
      refine lv_goto (tgt := 49) C.1 C.2.1 dX12_spread_45 (by decide) ?_
      have hz : spB (U.2 0) = true := by rw [spB, beB, beB, ho, ho2]; rfl
      exact r_iret C hw rfl rfl () (by rw [spV, if_pos hz, beV, beV, ho, ho2]) (by rw [hz] <;> rfl) (Nat.le_of_ble_eq_true rfl) (Nat.le_of_ble_eq_true rfl) dX12_spread_49

set_option maxHeartbeats 4000000 in
set_option maxRecDepth 100000 in
theorem k12_spreadBySums {l : Launch} {G : Gx} (hF : SF l G) {mo : Nat → Nat} {U : MV_} {X : va_W} (hok : okF (U.2 0)) : MI l G yX12_spreadBySums cX12_spreadBySums 1 .int 4 0 0 [.ref (mo 0)] (moW G mo U ++ X) (fun r _ => r = spV (U.2 0)) (fun _ : Unit => moW G mo (mI U 2 (bI (!spB (U.2 0)))) ++ X) := by
  refine mt_of hF (by decide) (Nat.le_of_ble_eq_true rfl) ?_
  intro p e s m below meth c C hin ls hl H locs hw
  have hl : lv_has ls 1 [(0, .ref (mo 0))] := hl
  refine lv_aload_n C.1 C.2.1 dX12_spreadBySums_0 rfl (lv_at hl 0 rfl) ?_
  refine r_vi C hw (k12_spread hF (mo := mo) (U := U) (X := X) hok) ml_X12_155 yf_X12_spread 0 rfl rfl (As := []) rfl rfl ⟨Nat.le_of_ble_eq_true rfl, Nat.le_of_ble_eq_true rfl⟩ ⟨Nat.le_of_ble_eq_true rfl, Nat.le_of_ble_eq_true rfl⟩ hl.1 (Nat.le_of_ble_eq_true rfl) dX12_spreadBySums_1 (fun r_1 _ H locs hp_1 hw => ?_)
  obtain rfl : r_1 = spV (U.2 0) := hp_1
  replace hw : WH G s (moW G mo (mI U 2 (bI (!spB (U.2 0)))) ++ X) H locs := hw
  exact r_iret C hw rfl rfl () (rfl) rfl (Nat.le_of_ble_eq_true rfl) (Nat.le_of_ble_eq_true rfl) dX12_spreadBySums_4

set_option maxHeartbeats 4000000 in
set_option maxRecDepth 100000 in
theorem k12_buyingAt {l : Launch} {G : Gx} (hF : SF l G) {mo : Nat → Nat} {U : MV_} {X : va_W} (hok : okF (U.2 0)) (x : Int32) : MI l G yX12_buyingAt cX12_buyingAt 2 .int 3 0 0 [.ref (mo 0), .int x] (moW G mo U ++ X) (fun r _ => r = (if inR x 1 99 = true then smF (U.2 0) true x x (nF (U.2 0)) else 0)) (fun _ : Unit => moW G mo (mI U 2 (bI (!inR x 1 99))) ++ X) := by
  refine mt_of hF (by decide) (Nat.le_of_ble_eq_true rfl) ?_
  intro p e s m below meth c C hin ls hl H locs hw
  have hl : lv_has ls 2 [(0, .ref (mo 0)), (1, .int x)] := hl
  refine lv_aload_n C.1 C.2.1 dX12_buyingAt_0 rfl (lv_at hl 0 rfl) ?_
  refine lv_iload_n C.1 C.2.1 dX12_buyingAt_1 rfl (lv_at hl 1 rfl) ?_
  refine lv_iconst (v := 1) C.1 C.2.1 dX12_buyingAt_2 (by decide) ?_
  refine lv_bipush (v := 99) C.1 C.2.1 dX12_buyingAt_3 (by decide) ?_
  refine r_si C hw (k12_in hF (X := moW G mo U ++ X) x 1 99) ml_X12_51 yf_X12_in (As := [.int x, .int 1, .int 99]) rfl rfl ⟨Nat.le_of_ble_eq_true rfl, Nat.le_of_ble_eq_true rfl⟩ ⟨Nat.le_of_ble_eq_true rfl, Nat.le_of_ble_eq_true rfl⟩ hl.1 (Nat.le_of_ble_eq_true rfl) dX12_buyingAt_5 (fun r_5 _ H locs hp_5 hw => ?_)
  obtain rfl : r_5 = bI (inR x 1 99) := hp_5
  replace hw : WH G s (moW G mo U ++ X) H locs := hw
  refine r_vi C hw (k12_isThere hF (mo := mo) (U := U) (X := X) (inR x 1 99)) ml_X12_142 yf_X12_isThere 0 rfl rfl (As := [.int (bI (inR x 1 99))]) rfl rfl ⟨Nat.le_of_ble_eq_true rfl, Nat.le_of_ble_eq_true rfl⟩ ⟨Nat.le_of_ble_eq_true rfl, Nat.le_of_ble_eq_true rfl⟩ hl.1 (Nat.le_of_ble_eq_true rfl) dX12_buyingAt_8 (fun r_8 _ H locs hp_8 hw => ?_)
  obtain rfl : r_8 = bI (inR x 1 99) := hp_8
  replace hw : WH G s (moW G mo (mI U 2 (bI (!(inR x 1 99)))) ++ X) H locs := hw
  refine lv_if_eq (tgt := 24) C.1 C.2.1 dX12_buyingAt_11 (by decide) (fun c_11 => ?_) (fun c_11 => ?_)
  · have b_11 := bI_eq0.mp c_11
    refine lv_iconst (v := 0) C.1 C.2.1 dX12_buyingAt_24 (by decide) ?_
    exact r_iret C hw rfl rfl () (by rw [if_neg (by rw [b_11]; decide)]) rfl (Nat.le_of_ble_eq_true rfl) (Nat.le_of_ble_eq_true rfl) dX12_buyingAt_25
  · have b_11 := bI_ne0.mp c_11
    refine lv_aload_n C.1 C.2.1 dX12_buyingAt_14 rfl (lv_at hl 0 rfl) ?_
    refine lv_iconst (v := 1) C.1 C.2.1 dX12_buyingAt_15 (by decide) ?_
    refine lv_iload_n C.1 C.2.1 dX12_buyingAt_16 rfl (lv_at hl 1 rfl) ?_
    refine lv_iload_n C.1 C.2.1 dX12_buyingAt_17 rfl (lv_at hl 1 rfl) ?_
    refine r_vi C hw (k12_sum hF (mo := mo) (U := (mI U 2 (bI (!(inR x 1 99))))) (X := X) (n := (nF (U.2 0))) hok.1 hok.2.1 true x x) ml_X12_158 yf_X12_sum 0 rfl rfl (As := [.int 1, .int x, .int x]) rfl rfl ⟨Nat.le_of_ble_eq_true rfl, Nat.le_of_ble_eq_true rfl⟩ ⟨Nat.le_of_ble_eq_true rfl, Nat.le_of_ble_eq_true rfl⟩ hl.1 (Nat.le_of_ble_eq_true rfl) dX12_buyingAt_18 (fun r_18 _ H locs hp_18 hw => ?_)
    obtain rfl : r_18 = smF (U.2 0) true x x (nF (U.2 0)) := hp_18
    replace hw : WH G s (moW G mo (mI U 2 (bI (!(inR x 1 99)))) ++ X) H locs := hw
    refine lv_goto (tgt := 25) C.1 C.2.1 dX12_buyingAt_21 (by decide) ?_
    exact r_iret C hw rfl rfl () (by rw [if_pos b_11]) rfl (Nat.le_of_ble_eq_true rfl) (Nat.le_of_ble_eq_true rfl) dX12_buyingAt_25

set_option maxHeartbeats 4000000 in
set_option maxRecDepth 100000 in
theorem k12_sellingAt {l : Launch} {G : Gx} (hF : SF l G) {mo : Nat → Nat} {U : MV_} {X : va_W} (hok : okF (U.2 0)) (x : Int32) : MI l G yX12_sellingAt cX12_sellingAt 2 .int 3 0 0 [.ref (mo 0), .int x] (moW G mo U ++ X) (fun r _ => r = (if inR x 1 99 = true then smF (U.2 0) false x x (nF (U.2 0)) else 0)) (fun _ : Unit => moW G mo (mI U 2 (bI (!inR x 1 99))) ++ X) := by
  refine mt_of hF (by decide) (Nat.le_of_ble_eq_true rfl) ?_
  intro p e s m below meth c C hin ls hl H locs hw
  have hl : lv_has ls 2 [(0, .ref (mo 0)), (1, .int x)] := hl
  refine lv_aload_n C.1 C.2.1 dX12_sellingAt_0 rfl (lv_at hl 0 rfl) ?_
  refine lv_iload_n C.1 C.2.1 dX12_sellingAt_1 rfl (lv_at hl 1 rfl) ?_
  refine lv_iconst (v := 1) C.1 C.2.1 dX12_sellingAt_2 (by decide) ?_
  refine lv_bipush (v := 99) C.1 C.2.1 dX12_sellingAt_3 (by decide) ?_
  refine r_si C hw (k12_in hF (X := moW G mo U ++ X) x 1 99) ml_X12_51 yf_X12_in (As := [.int x, .int 1, .int 99]) rfl rfl ⟨Nat.le_of_ble_eq_true rfl, Nat.le_of_ble_eq_true rfl⟩ ⟨Nat.le_of_ble_eq_true rfl, Nat.le_of_ble_eq_true rfl⟩ hl.1 (Nat.le_of_ble_eq_true rfl) dX12_sellingAt_5 (fun r_5 _ H locs hp_5 hw => ?_)
  obtain rfl : r_5 = bI (inR x 1 99) := hp_5
  replace hw : WH G s (moW G mo U ++ X) H locs := hw
  refine r_vi C hw (k12_isThere hF (mo := mo) (U := U) (X := X) (inR x 1 99)) ml_X12_142 yf_X12_isThere 0 rfl rfl (As := [.int (bI (inR x 1 99))]) rfl rfl ⟨Nat.le_of_ble_eq_true rfl, Nat.le_of_ble_eq_true rfl⟩ ⟨Nat.le_of_ble_eq_true rfl, Nat.le_of_ble_eq_true rfl⟩ hl.1 (Nat.le_of_ble_eq_true rfl) dX12_sellingAt_8 (fun r_8 _ H locs hp_8 hw => ?_)
  obtain rfl : r_8 = bI (inR x 1 99) := hp_8
  replace hw : WH G s (moW G mo (mI U 2 (bI (!(inR x 1 99)))) ++ X) H locs := hw
  refine lv_if_eq (tgt := 24) C.1 C.2.1 dX12_sellingAt_11 (by decide) (fun c_11 => ?_) (fun c_11 => ?_)
  · have b_11 := bI_eq0.mp c_11
    refine lv_iconst (v := 0) C.1 C.2.1 dX12_sellingAt_24 (by decide) ?_
    exact r_iret C hw rfl rfl () (by rw [if_neg (by rw [b_11]; decide)]) rfl (Nat.le_of_ble_eq_true rfl) (Nat.le_of_ble_eq_true rfl) dX12_sellingAt_25
  · have b_11 := bI_ne0.mp c_11
    refine lv_aload_n C.1 C.2.1 dX12_sellingAt_14 rfl (lv_at hl 0 rfl) ?_
    refine lv_iconst (v := 0) C.1 C.2.1 dX12_sellingAt_15 (by decide) ?_
    refine lv_iload_n C.1 C.2.1 dX12_sellingAt_16 rfl (lv_at hl 1 rfl) ?_
    refine lv_iload_n C.1 C.2.1 dX12_sellingAt_17 rfl (lv_at hl 1 rfl) ?_
    refine r_vi C hw (k12_sum hF (mo := mo) (U := (mI U 2 (bI (!(inR x 1 99))))) (X := X) (n := (nF (U.2 0))) hok.1 hok.2.1 false x x) ml_X12_158 yf_X12_sum 0 rfl rfl (As := [.int 0, .int x, .int x]) rfl rfl ⟨Nat.le_of_ble_eq_true rfl, Nat.le_of_ble_eq_true rfl⟩ ⟨Nat.le_of_ble_eq_true rfl, Nat.le_of_ble_eq_true rfl⟩ hl.1 (Nat.le_of_ble_eq_true rfl) dX12_sellingAt_18 (fun r_18 _ H locs hp_18 hw => ?_)
    obtain rfl : r_18 = smF (U.2 0) false x x (nF (U.2 0)) := hp_18
    replace hw : WH G s (moW G mo (mI U 2 (bI (!(inR x 1 99)))) ++ X) H locs := hw
    refine lv_goto (tgt := 25) C.1 C.2.1 dX12_sellingAt_21 (by decide) ?_
    exact r_iret C hw rfl rfl () (by rw [if_pos b_11]) rfl (Nat.le_of_ble_eq_true rfl) (Nat.le_of_ble_eq_true rfl) dX12_sellingAt_25

set_option maxHeartbeats 4000000 in
set_option maxRecDepth 100000 in
theorem k12_volumeAt {l : Launch} {G : Gx} (hF : SF l G) {mo : Nat → Nat} {U : MV_} {X : va_W} (hok : okF (U.2 0)) (x : Int32) : MI l G yX12_volumeAt cX12_volumeAt 2 .int 4 0 0 [.ref (mo 0), .int x] (moW G mo U ++ X) (fun r _ => r = (if inR x 1 99 = true then voF (U.2 0) (nF (U.2 0)) x else 0)) (fun _ : Unit => moW G mo (mI U 2 (bI (!inR x 1 99))) ++ X) := by
  refine mt_of hF (by decide) (Nat.le_of_ble_eq_true rfl) ?_
  intro p e s m below meth c C hin ls hl H locs hw
  have hl : lv_has ls 2 [(0, .ref (mo 0)), (1, .int x)] := hl
  refine lv_aload_n C.1 C.2.1 dX12_volumeAt_0 rfl (lv_at hl 0 rfl) ?_
  refine lv_iload_n C.1 C.2.1 dX12_volumeAt_1 rfl (lv_at hl 1 rfl) ?_
  refine lv_iconst (v := 1) C.1 C.2.1 dX12_volumeAt_2 (by decide) ?_
  refine lv_bipush (v := 99) C.1 C.2.1 dX12_volumeAt_3 (by decide) ?_
  refine r_si C hw (k12_in hF (X := moW G mo U ++ X) x 1 99) ml_X12_51 yf_X12_in (As := [.int x, .int 1, .int 99]) rfl rfl ⟨Nat.le_of_ble_eq_true rfl, Nat.le_of_ble_eq_true rfl⟩ ⟨Nat.le_of_ble_eq_true rfl, Nat.le_of_ble_eq_true rfl⟩ hl.1 (Nat.le_of_ble_eq_true rfl) dX12_volumeAt_5 (fun r_5 _ H locs hp_5 hw => ?_)
  obtain rfl : r_5 = bI (inR x 1 99) := hp_5
  replace hw : WH G s (moW G mo U ++ X) H locs := hw
  refine r_vi C hw (k12_isThere hF (mo := mo) (U := U) (X := X) (inR x 1 99)) ml_X12_142 yf_X12_isThere 0 rfl rfl (As := [.int (bI (inR x 1 99))]) rfl rfl ⟨Nat.le_of_ble_eq_true rfl, Nat.le_of_ble_eq_true rfl⟩ ⟨Nat.le_of_ble_eq_true rfl, Nat.le_of_ble_eq_true rfl⟩ hl.1 (Nat.le_of_ble_eq_true rfl) dX12_volumeAt_8 (fun r_8 _ H locs hp_8 hw => ?_)
  obtain rfl : r_8 = bI (inR x 1 99) := hp_8
  replace hw : WH G s (moW G mo (mI U 2 (bI (!(inR x 1 99)))) ++ X) H locs := hw
  refine lv_if_eq (tgt := 22) C.1 C.2.1 dX12_volumeAt_11 (by decide) (fun c_11 => ?_) (fun c_11 => ?_)
  · have b_11 := bI_eq0.mp c_11
    refine lv_iconst (v := 0) C.1 C.2.1 dX12_volumeAt_22 (by decide) ?_
    exact r_iret C hw rfl rfl () (by rw [if_neg (by rw [b_11]; decide)]) rfl (Nat.le_of_ble_eq_true rfl) (Nat.le_of_ble_eq_true rfl) dX12_volumeAt_23
  · have b_11 := bI_ne0.mp c_11
    refine lv_aload_n C.1 C.2.1 dX12_volumeAt_14 rfl (lv_at hl 0 rfl) ?_
    refine lv_iload_n C.1 C.2.1 dX12_volumeAt_15 rfl (lv_at hl 1 rfl) ?_
    refine r_vi C hw (k12_volume hF (mo := mo) (U := (mI U 2 (bI (!(inR x 1 99))))) (X := X) (n := (nF (U.2 0))) hok.1 hok.2.1 x) ml_X12_133 yf_X12_volume 0 rfl rfl (As := [.int x]) rfl rfl ⟨Nat.le_of_ble_eq_true rfl, Nat.le_of_ble_eq_true rfl⟩ ⟨Nat.le_of_ble_eq_true rfl, Nat.le_of_ble_eq_true rfl⟩ hl.1 (Nat.le_of_ble_eq_true rfl) dX12_volumeAt_16 (fun r_16 _ H locs hp_16 hw => ?_)
    obtain rfl : r_16 = voF (U.2 0) (nF (U.2 0)) x := hp_16
    replace hw : WH G s (moW G mo (mI U 2 (bI (!(inR x 1 99)))) ++ X) H locs := hw
    refine lv_goto (tgt := 23) C.1 C.2.1 dX12_volumeAt_19 (by decide) ?_
    exact r_iret C hw rfl rfl () (by rw [if_pos b_11]) rfl (Nat.le_of_ble_eq_true rfl) (Nat.le_of_ble_eq_true rfl) dX12_volumeAt_23

def laB (f : Nat → Int32) : Bool := !decide (f 6 ≤ 0)
def ppB (f : Nat → Int32) : Bool := !decide (clP f < 0)
set_option maxHeartbeats 4000000 in
set_option maxRecDepth 100000 in
theorem k12_lastPrice {l : Launch} {G : Gx} (hF : SF l G) {mo : Nat → Nat} {U : MV_} {X : va_W} : MI l G yX12_lastPrice cX12_lastPrice 1 .int 3 0 0 [.ref (mo 0)] (moW G mo U ++ X) (fun r _ => r = (if laB (U.2 0) = true then (U.2 0) 5 else 0)) (fun _ : Unit => moW G mo (mI U 2 (bI (!laB (U.2 0)))) ++ X) := by
  refine mt_of hF (by decide) (Nat.le_of_ble_eq_true rfl) ?_
  intro p e s m below meth c C hin ls hl H locs hw
  have hl : lv_has ls 1 [(0, .ref (mo 0))] := hl
  refine lv_aload_n C.1 C.2.1 dX12_lastPrice_0 rfl (lv_at hl 0 rfl) ?_
  refine lv_aload_n C.1 C.2.1 dX12_lastPrice_1 rfl (lv_at hl 0 rfl) ?_
  refine r_get C hw 0 rfl rfl in_X12 0 (by decide) fl_X12_9 rfl (v := .ref (mo 1)) rfl dX12_lastPrice_2 ?_
  refine lv_bipush (v := 6) C.1 C.2.1 dX12_lastPrice_5 (by decide) ?_
  refine r_iald C hw 1 rfl (vp_in_nI (n := 6) (by omega) (by decide)) dX12_lastPrice_7 ?_
  refine r_toe (show _ = (U.2 0) 6 from congrArg (U.2 0) (nI_clamp (n := 6) (by omega))) ?_
  refine lv_if_le (tgt := 15) C.1 C.2.1 dX12_lastPrice_8 (by decide) (fun c_8 => ?_) (fun c_8 => ?_)
  · refine lv_iconst (v := 0) C.1 C.2.1 dX12_lastPrice_15 (by decide) ?_
    refine r_vi C hw (k12_isThere hF (mo := mo) (U := U) (X := X) false) ml_X12_142 yf_X12_isThere 0 rfl rfl (As := [.int 0]) rfl rfl ⟨Nat.le_of_ble_eq_true rfl, Nat.le_of_ble_eq_true rfl⟩ ⟨Nat.le_of_ble_eq_true rfl, Nat.le_of_ble_eq_true rfl⟩ hl.1 (Nat.le_of_ble_eq_true rfl) dX12_lastPrice_16 (fun r_16 _ H locs hp_16 hw => ?_)
    obtain rfl : r_16 = bI false := hp_16
    replace hw : WH G s (moW G mo (mI U 2 (bI (!false))) ++ X) H locs := hw
    refine lv_if_eq (tgt := 31) C.1 C.2.1 dX12_lastPrice_19 (by decide) (fun c_19 => ?_) (fun c_19 => absurd (by decide) c_19)
    refine lv_iconst (v := 0) C.1 C.2.1 dX12_lastPrice_31 (by decide) ?_
    have hz : laB (U.2 0) = false := by simp [laB, c_8]
    exact r_iret C hw rfl rfl () (by rw [hz]; rfl) (by rw [hz] <;> rfl) (Nat.le_of_ble_eq_true rfl) (Nat.le_of_ble_eq_true rfl) dX12_lastPrice_32
  · refine lv_iconst (v := 1) C.1 C.2.1 dX12_lastPrice_11 (by decide) ?_
    refine lv_goto (tgt := 16) C.1 C.2.1 dX12_lastPrice_12 (by decide) ?_
    refine r_vi C hw (k12_isThere hF (mo := mo) (U := U) (X := X) true) ml_X12_142 yf_X12_isThere 0 rfl rfl (As := [.int 1]) rfl rfl ⟨Nat.le_of_ble_eq_true rfl, Nat.le_of_ble_eq_true rfl⟩ ⟨Nat.le_of_ble_eq_true rfl, Nat.le_of_ble_eq_true rfl⟩ hl.1 (Nat.le_of_ble_eq_true rfl) dX12_lastPrice_16 (fun r_16 _ H locs hp_16 hw => ?_)
    obtain rfl : r_16 = bI true := hp_16
    replace hw : WH G s (moW G mo (mI U 2 (bI (!true))) ++ X) H locs := hw
    refine lv_if_eq (tgt := 31) C.1 C.2.1 dX12_lastPrice_19 (by decide) (fun c_19 => absurd c_19 (by decide)) (fun c_19 => ?_)
    refine lv_aload_n C.1 C.2.1 dX12_lastPrice_22 rfl (lv_at hl 0 rfl) ?_
    refine r_get C hw 0 rfl rfl in_X12 0 (by decide) fl_X12_9 rfl (v := .ref (mo 1)) rfl dX12_lastPrice_23 ?_
    refine lv_iconst (v := 5) C.1 C.2.1 dX12_lastPrice_26 (by decide) ?_
    refine r_iald C hw 1 rfl (vp_in_nI (n := 5) (by omega) (by decide)) dX12_lastPrice_27 ?_
    refine r_toe (show _ = (U.2 0) 5 from congrArg (U.2 0) (nI_clamp (n := 5) (by omega))) ?_
    refine lv_goto (tgt := 32) C.1 C.2.1 dX12_lastPrice_28 (by decide) ?_
    have hz : laB (U.2 0) = true := by simp [laB, c_8]
    exact r_iret C hw rfl rfl () (by rw [hz]; rfl) (by rw [hz] <;> rfl) (Nat.le_of_ble_eq_true rfl) (Nat.le_of_ble_eq_true rfl) dX12_lastPrice_32

set_option maxHeartbeats 4000000 in
set_option maxRecDepth 100000 in
theorem k12_poolPrice {l : Launch} {G : Gx} (hF : SF l G) {mo : Nat → Nat} {U : MV_} {X : va_W} (hok : okF (U.2 0)) : MI l G yX12_poolPrice cX12_poolPrice 2 .int 4 0 0 [.ref (mo 0)] (moW G mo U ++ X) (fun r _ => r = (if ppB (U.2 0) = true then clP (U.2 0) else 0)) (fun _ : Unit => moW G mo (mI U 2 (bI (!ppB (U.2 0)))) ++ X) := by
  refine mt_of hF (by decide) (Nat.le_of_ble_eq_true rfl) ?_
  intro p e s m below meth c C hin ls hl H locs hw
  have hl : lv_has ls 2 [(0, .ref (mo 0))] := hl
  refine lv_aload_n C.1 C.2.1 dX12_poolPrice_0 rfl (lv_at hl 0 rfl) ?_
  refine r_vi C hw (k12_pool hF (mo := mo) (U := U) (X := X) (n := (nF (U.2 0))) hok.1 hok.2.1) ml_X12_130 yf_X12_pool 0 rfl rfl (As := []) rfl rfl ⟨Nat.le_of_ble_eq_true rfl, Nat.le_of_ble_eq_true rfl⟩ ⟨Nat.le_of_ble_eq_true rfl, Nat.le_of_ble_eq_true rfl⟩ hl.1 (Nat.le_of_ble_eq_true rfl) dX12_poolPrice_1 (fun r_1 _ H locs hp_1 hw => ?_)
  obtain rfl : r_1 = (poR (U.2 0) (nF (U.2 0)) 99).1 := hp_1
  replace hw : WH G s (moW G mo U ++ X) H locs := hw
  refine r_toe (clP_e (U.2 0)) ?_
  refine lv_istore_n (lv' := [(1, .int (clP (U.2 0))), (0, .ref (mo 0))]) C.1 C.2.1 dX12_poolPrice_4 rfl hl (by decide) rfl (fun ls hl => ?_)
  refine lv_aload_n C.1 C.2.1 dX12_poolPrice_5 rfl (lv_at hl 1 rfl) ?_
  refine lv_iload_n C.1 C.2.1 dX12_poolPrice_6 rfl (lv_at hl 0 rfl) ?_
  refine lv_if_lt (tgt := 14) C.1 C.2.1 dX12_poolPrice_7 (by decide) (fun c_7 => ?_) (fun c_7 => ?_)
  · refine lv_iconst (v := 0) C.1 C.2.1 dX12_poolPrice_14 (by decide) ?_
    refine r_vi C hw (k12_isThere hF (mo := mo) (U := U) (X := X) false) ml_X12_142 yf_X12_isThere 0 rfl rfl (As := [.int 0]) rfl rfl ⟨Nat.le_of_ble_eq_true rfl, Nat.le_of_ble_eq_true rfl⟩ ⟨Nat.le_of_ble_eq_true rfl, Nat.le_of_ble_eq_true rfl⟩ hl.1 (Nat.le_of_ble_eq_true rfl) dX12_poolPrice_15 (fun r_15 _ H locs hp_15 hw => ?_)
    obtain rfl : r_15 = bI false := hp_15
    replace hw : WH G s (moW G mo (mI U 2 (bI (!false))) ++ X) H locs := hw
    refine lv_if_eq (tgt := 25) C.1 C.2.1 dX12_poolPrice_18 (by decide) (fun c_18 => ?_) (fun c_18 => absurd (by decide) c_18)
    refine lv_iconst (v := 0) C.1 C.2.1 dX12_poolPrice_25 (by decide) ?_
    have hz : ppB (U.2 0) = false := by rw [ppB]; simp [c_7]
    exact r_iret C hw rfl rfl () (by rw [hz]; rfl) (by rw [hz] <;> rfl) (Nat.le_of_ble_eq_true rfl) (Nat.le_of_ble_eq_true rfl) dX12_poolPrice_26
  · refine lv_iconst (v := 1) C.1 C.2.1 dX12_poolPrice_10 (by decide) ?_
    refine lv_goto (tgt := 15) C.1 C.2.1 dX12_poolPrice_11 (by decide) ?_
    refine r_vi C hw (k12_isThere hF (mo := mo) (U := U) (X := X) true) ml_X12_142 yf_X12_isThere 0 rfl rfl (As := [.int 1]) rfl rfl ⟨Nat.le_of_ble_eq_true rfl, Nat.le_of_ble_eq_true rfl⟩ ⟨Nat.le_of_ble_eq_true rfl, Nat.le_of_ble_eq_true rfl⟩ hl.1 (Nat.le_of_ble_eq_true rfl) dX12_poolPrice_15 (fun r_15 _ H locs hp_15 hw => ?_)
    obtain rfl : r_15 = bI true := hp_15
    replace hw : WH G s (moW G mo (mI U 2 (bI (!true))) ++ X) H locs := hw
    refine lv_if_eq (tgt := 25) C.1 C.2.1 dX12_poolPrice_18 (by decide) (fun c_18 => absurd c_18 (by decide)) (fun c_18 => ?_)
    refine lv_iload_n C.1 C.2.1 dX12_poolPrice_21 rfl (lv_at hl 0 rfl) ?_
    refine lv_goto (tgt := 26) C.1 C.2.1 dX12_poolPrice_22 (by decide) ?_
    have hz : ppB (U.2 0) = true := by rw [ppB]; simp [c_7]
    exact r_iret C hw rfl rfl () (by rw [hz]; rfl) (by rw [hz] <;> rfl) (Nat.le_of_ble_eq_true rfl) (Nat.le_of_ble_eq_true rfl) dX12_poolPrice_26

set_option maxHeartbeats 4000000 in
set_option maxRecDepth 100000 in
theorem k12_poolPriceBySums {l : Launch} {G : Gx} (hF : SF l G) {mo : Nat → Nat} {U : MV_} {X : va_W} (hok : okF (U.2 0)) : MI l G yX12_poolPriceBySums cX12_poolPriceBySums 1 .int 5 0 0 [.ref (mo 0)] (moW G mo U ++ X) (fun r _ => r = (if ppB (U.2 0) = true then clP (U.2 0) else 0)) (fun _ : Unit => moW G mo (mI U 2 (bI (!ppB (U.2 0)))) ++ X) := by
  refine mt_of hF (by decide) (Nat.le_of_ble_eq_true rfl) ?_
  intro p e s m below meth c C hin ls hl H locs hw
  have hl : lv_has ls 1 [(0, .ref (mo 0))] := hl
  refine lv_aload_n C.1 C.2.1 dX12_poolPriceBySums_0 rfl (lv_at hl 0 rfl) ?_
  refine r_vi C hw (k12_poolPrice hF (mo := mo) (U := U) (X := X) hok) ml_X12_162 yf_X12_poolPrice 0 rfl rfl (As := []) rfl rfl ⟨Nat.le_of_ble_eq_true rfl, Nat.le_of_ble_eq_true rfl⟩ ⟨Nat.le_of_ble_eq_true rfl, Nat.le_of_ble_eq_true rfl⟩ hl.1 (Nat.le_of_ble_eq_true rfl) dX12_poolPriceBySums_1 (fun r_1 _ H locs hp_1 hw => ?_)
  obtain rfl : r_1 = (if ppB (U.2 0) = true then clP (U.2 0) else 0) := hp_1
  replace hw : WH G s (moW G mo (mI U 2 (bI (!ppB (U.2 0)))) ++ X) H locs := hw
  exact r_iret C hw rfl rfl () (rfl) rfl (Nat.le_of_ble_eq_true rfl) (Nat.le_of_ble_eq_true rfl) dX12_poolPriceBySums_4

theorem sb_s (f : Nat → Int32) (x : Int32) (t k : Nat) : sbR f x t (k + 1) = if abR f k t = x then nI k else sbR f x t k := by unfold sbR; exact fr_s _ _ _
theorem ab_t {f : Nat → Int32} {i o : Nat} (h : abC f i o = true) : abR f i (o + 1) = abR f i o + 1 := by
  have e : abR f i (o + 1) = abR f i o + (if abC f i o = true then 1 else 0) := by unfold abR; exact fr_s _ _ _
  rw [e, if_pos h]
theorem ab_f {f : Nat → Int32} {i o : Nat} (h : abC f i o = false) : abR f i (o + 1) = abR f i o + 0 := by
  have e : abR f i (o + 1) = abR f i o + (if abC f i o = true then 1 else 0) := by unfold abR; exact fr_s _ _ _
  rw [e, if_neg (by rw [h]; decide)]
def sbV (f : Nat → Int32) (x : Int32) : Int32 := if isF f x = true then sbR f x (tF f) (tF f) else 0
theorem abC_gt {x : Int32} (h : 0 < x) : ¬ x ≤ 0 := Int32.not_le.mpr h
set_option maxHeartbeats 4000000 in
set_option maxRecDepth 100000 in
theorem k12_stallByMoney {l : Launch} {G : Gx} (hF : SF l G) {mo : Nat → Nat} {U : MV_} {X : va_W} (hok : okF (U.2 0)) (x : Int32) : MI l G yX12_stallByMoney cX12_stallByMoney 8 .int 3 0 0 [.ref (mo 0), .int x] (moW G mo U ++ X) (fun r _ => r = sbV (U.2 0) x) (fun _ : Unit => moW G mo (mI U 2 (bI (!isF (U.2 0) x))) ++ X) := by
  refine mt_of hF (by decide) (Nat.le_of_ble_eq_true rfl) ?_
  intro p e s m below meth c C hin ls hl H locs hw
  have hl : lv_has ls 8 [(0, .ref (mo 0)), (1, .int x)] := hl
  refine lv_iconst (v := 0) C.1 C.2.1 dX12_stallByMoney_0 (by decide) ?_
  refine lv_istore_n (lv' := [(2, .int 0), (0, .ref (mo 0)), (1, .int x)]) C.1 C.2.1 dX12_stallByMoney_1 rfl hl (by decide) rfl (fun ls hl => ?_)
  refine lv_aload_n C.1 C.2.1 dX12_stallByMoney_2 rfl (lv_at hl 1 rfl) ?_
  refine lv_aload_n C.1 C.2.1 dX12_stallByMoney_3 rfl (lv_at hl 1 rfl) ?_
  refine lv_iload_n C.1 C.2.1 dX12_stallByMoney_4 rfl (lv_at hl 2 rfl) ?_
  refine r_vi C hw (k12_isStall hF (mo := mo) (U := U) (X := X) x) ml_X12_87 yf_X12_isStall 0 rfl rfl (As := [.int x]) rfl rfl ⟨Nat.le_of_ble_eq_true rfl, Nat.le_of_ble_eq_true rfl⟩ ⟨Nat.le_of_ble_eq_true rfl, Nat.le_of_ble_eq_true rfl⟩ hl.1 (Nat.le_of_ble_eq_true rfl) dX12_stallByMoney_5 (fun r_5 _ H locs hp_5 hw => ?_)
  obtain rfl : r_5 = bI (isF (U.2 0) x) := hp_5
  replace hw : WH G s (moW G mo U ++ X) H locs := hw
  refine r_vi C hw (k12_isThere hF (mo := mo) (U := U) (X := X) (isF (U.2 0) x)) ml_X12_142 yf_X12_isThere 0 rfl rfl (As := [.int (bI (isF (U.2 0) x))]) rfl rfl ⟨Nat.le_of_ble_eq_true rfl, Nat.le_of_ble_eq_true rfl⟩ ⟨Nat.le_of_ble_eq_true rfl, Nat.le_of_ble_eq_true rfl⟩ hl.1 (Nat.le_of_ble_eq_true rfl) dX12_stallByMoney_8 (fun r_8 _ H locs hp_8 hw => ?_)
  obtain rfl : r_8 = bI (isF (U.2 0) x) := hp_8
  replace hw : WH G s (moW G mo (mI U 2 (bI (!(isF (U.2 0) x)))) ++ X) H locs := hw
  refine lv_istore_n (lv' := [(3, .int (bI (isF (U.2 0) x))), (2, .int 0), (0, .ref (mo 0)), (1, .int x)]) C.1 C.2.1 dX12_stallByMoney_11 rfl hl (by decide) rfl (fun ls hl => ?_)
  cases hb : isF (U.2 0) x
  · replace hl : lv_has ls 8 [(3, .int (bI false)), (2, .int 0), (0, .ref (mo 0)), (1, .int x)] := hl.to_eq (by rw [hb])
    refine lv_iconst (v := 0) C.1 C.2.1 dX12_stallByMoney_12 (by decide) ?_
    refine lv_istore (lv' := [(4, .int 0), (3, .int (bI false)), (2, .int 0), (0, .ref (mo 0)), (1, .int x)]) C.1 C.2.1 dX12_stallByMoney_13 hl (by decide) rfl (fun ls hl => ?_)
    refine lv_iload C.1 C.2.1 dX12_stallByMoney_15 (lv_at hl 0 rfl) ?_
    refine lv_aload_n C.1 C.2.1 dX12_stallByMoney_17 rfl (lv_at hl 3 rfl) ?_
    refine r_get C hw 0 rfl rfl in_X12 0 (by decide) fl_X12_9 rfl (v := .ref (mo 1)) rfl dX12_stallByMoney_18 ?_
    refine lv_iconst (v := 0) C.1 C.2.1 dX12_stallByMoney_21 (by decide) ?_
    refine r_iald C hw 1 rfl (vp_in_nI (n := 0) (by omega) (by decide)) dX12_stallByMoney_22 ?_
    refine r_toe (show _ = (U.2 0) 0 from congrArg (U.2 0) (nI_clamp (n := 0) (by omega))) ?_
    refine r_toe (show _ = nI (tF (U.2 0)) from hok.2.2.1) ?_
    refine lv_icmp_ge (tgt := 116) C.1 C.2.1 dX12_stallByMoney_23 (by decide) (fun c_23 => ?_) (fun c_23 => ?_)
    · refine lv_iload_n C.1 C.2.1 dX12_stallByMoney_116 rfl (lv_at hl 2 rfl) ?_
      exact r_iret C hw rfl rfl () (by rw [sbV, hb]; rfl) (by rw [hb]) (Nat.le_of_ble_eq_true rfl) (Nat.le_of_ble_eq_true rfl) dX12_stallByMoney_117
    · refine lv_iload_n C.1 C.2.1 dX12_stallByMoney_26 rfl (lv_at hl 1 rfl) ?_
      refine lv_if_eq (tgt := 116) C.1 C.2.1 dX12_stallByMoney_27 (by decide) (fun c_27 => ?_) (fun c_27 => absurd (by decide) c_27)
      refine lv_iload_n C.1 C.2.1 dX12_stallByMoney_116 rfl (lv_at hl 2 rfl) ?_
      exact r_iret C hw rfl rfl () (by rw [sbV, hb]; rfl) (by rw [hb]) (Nat.le_of_ble_eq_true rfl) (Nat.le_of_ble_eq_true rfl) dX12_stallByMoney_117
  · replace hl : lv_has ls 8 [(3, .int (bI true)), (2, .int 0), (0, .ref (mo 0)), (1, .int x)] := hl.to_eq (by rw [hb])
    refine lv_iconst (v := 0) C.1 C.2.1 dX12_stallByMoney_12 (by decide) ?_
    refine lv_istore (lv' := [(4, .int 0), (3, .int (bI true)), (2, .int 0), (0, .ref (mo 0)), (1, .int x)]) C.1 C.2.1 dX12_stallByMoney_13 hl (by decide) rfl (fun ls hl => ?_)
    refine w_loop (σ := Nat × Int32) G (fun u ⟨i, y⟩ => i ≤ tF (U.2 0) ∧ tF (U.2 0) < i + u ∧ y = sbR (U.2 0) x (tF (U.2 0)) i) (fun ⟨i, y⟩ => moW G mo (mI U 2 (bI (!isF (U.2 0) x))) ++ X) (fun ⟨i, y⟩ => 0) (fun ⟨i, y⟩ => 0) (fun ⟨i, y⟩ => [(0, .ref (mo 0)), (1, .int x), (2, .int y), (3, .int (bI true)), (4, .int (nI i))]) 8 ?_ ?_ (tF (U.2 0) + 1) (0, 0) (⟨Nat.zero_le _, by omega, rfl⟩) hw (lv_sub hl [3, 4, 2, 1, 0] rfl)
    · rintro n15 ⟨i, y⟩ ⟨h1, h2, h3⟩ ih15 H locs hw ls hl
      replace hw : WH G s (moW G mo (mI U 2 (bI (!isF (U.2 0) x))) ++ X) H locs := hw
      replace hl : lv_has ls 8 [(0, .ref (mo 0)), (1, .int x), (2, .int y), (3, .int (bI true)), (4, .int (nI i))] := hl
      have ht6 := hok.2.2.2.1
      refine lv_iload C.1 C.2.1 dX12_stallByMoney_15 (lv_at hl 4 rfl) ?_
      refine lv_aload_n C.1 C.2.1 dX12_stallByMoney_17 rfl (lv_at hl 0 rfl) ?_
      refine r_get C hw 0 rfl rfl in_X12 0 (by decide) fl_X12_9 rfl (v := .ref (mo 1)) rfl dX12_stallByMoney_18 ?_
      refine lv_iconst (v := 0) C.1 C.2.1 dX12_stallByMoney_21 (by decide) ?_
      refine r_iald C hw 1 rfl (vp_in_nI (n := 0) (by omega) (by decide)) dX12_stallByMoney_22 ?_
      refine r_toe (show _ = (U.2 0) 0 from congrArg (U.2 0) (nI_clamp (n := 0) (by omega))) ?_
      refine r_toe (show _ = nI (tF (U.2 0)) from hok.2.2.1) ?_
      refine lv_icmp_ge (tgt := 116) C.1 C.2.1 dX12_stallByMoney_23 (by decide) (fun c_23 => ?_) (fun c_23 => ?_)
      · obtain rfl : i = tF (U.2 0) := le_T h1 (by omega) c_23
        refine lv_iload_n C.1 C.2.1 dX12_stallByMoney_116 rfl (lv_at hl 2 rfl) ?_
        exact r_iret C hw rfl rfl () (by rw [sbV, if_pos hb, h3]) (by rw [hb]) (Nat.le_of_ble_eq_true rfl) (Nat.le_of_ble_eq_true rfl) dX12_stallByMoney_117
      · have hi := le_F h1 (by omega) c_23
        refine lv_iload_n C.1 C.2.1 dX12_stallByMoney_26 rfl (lv_at hl 3 rfl) ?_
        refine lv_if_eq (tgt := 116) C.1 C.2.1 dX12_stallByMoney_27 (by decide) (fun c_27 => absurd c_27 (by decide)) (fun c_27 => ?_)
        refine lv_iconst (v := 0) C.1 C.2.1 dX12_stallByMoney_30 (by decide) ?_
        refine lv_istore (lv' := [(5, .int 0), (0, .ref (mo 0)), (1, .int x), (2, .int y), (3, .int (bI true)), (4, .int (nI i))]) C.1 C.2.1 dX12_stallByMoney_31 hl (by decide) rfl (fun ls hl => ?_)
        refine lv_iconst (v := 0) C.1 C.2.1 dX12_stallByMoney_33 (by decide) ?_
        refine lv_istore (lv' := [(6, .int 0), (5, .int 0), (0, .ref (mo 0)), (1, .int x), (2, .int y), (3, .int (bI true)), (4, .int (nI i))]) C.1 C.2.1 dX12_stallByMoney_34 hl (by decide) rfl (fun ls hl => ?_)
        refine w_loop (σ := Nat × Int32) G (fun u ⟨o, a⟩ => o ≤ tF (U.2 0) ∧ tF (U.2 0) < o + u ∧ a = abR (U.2 0) i o) (fun ⟨o, a⟩ => moW G mo (mI U 2 (bI (!isF (U.2 0) x))) ++ X) (fun ⟨o, a⟩ => 0) (fun ⟨o, a⟩ => 0) (fun ⟨o, a⟩ => [(0, .ref (mo 0)), (1, .int x), (2, .int y), (3, .int (bI true)), (4, .int (nI i)), (5, .int a), (6, .int (nI o))]) 8 ?_ ?_ (tF (U.2 0) + 1) (0, 0) (⟨Nat.zero_le _, by omega, rfl⟩) hw (lv_sub hl [2, 3, 4, 5, 6, 1, 0] rfl)
        · rintro n36 ⟨o, a⟩ ⟨j1, j2, j3⟩ ih36 H locs hw ls hl
          replace hw : WH G s (moW G mo (mI U 2 (bI (!isF (U.2 0) x))) ++ X) H locs := hw
          replace hl : lv_has ls 8 [(0, .ref (mo 0)), (1, .int x), (2, .int y), (3, .int (bI true)), (4, .int (nI i)), (5, .int a), (6, .int (nI o))] := hl
          refine lv_iload C.1 C.2.1 dX12_stallByMoney_36 (lv_at hl 6 rfl) ?_
          refine lv_aload_n C.1 C.2.1 dX12_stallByMoney_38 rfl (lv_at hl 0 rfl) ?_
          refine r_get C hw 0 rfl rfl in_X12 0 (by decide) fl_X12_9 rfl (v := .ref (mo 1)) rfl dX12_stallByMoney_39 ?_
          refine lv_iconst (v := 0) C.1 C.2.1 dX12_stallByMoney_42 (by decide) ?_
          refine r_iald C hw 1 rfl (vp_in_nI (n := 0) (by omega) (by decide)) dX12_stallByMoney_43 ?_
          refine r_toe (show _ = (U.2 0) 0 from congrArg (U.2 0) (nI_clamp (n := 0) (by omega))) ?_
          refine r_toe (show _ = nI (tF (U.2 0)) from hok.2.2.1) ?_
          refine lv_icmp_ge (tgt := 97) C.1 C.2.1 dX12_stallByMoney_44 (by decide) (fun c_44 => ?_) (fun c_44 => ?_)
          · have h3i : a = abR (U.2 0) i (tF (U.2 0)) := by rw [j3, le_T j1 (by omega) c_44]
            refine lv_iload C.1 C.2.1 dX12_stallByMoney_97 (lv_at hl 5 rfl) ?_
            refine lv_iload_n C.1 C.2.1 dX12_stallByMoney_99 rfl (lv_at hl 1 rfl) ?_
            refine lv_icmp_ne (tgt := 108) C.1 C.2.1 dX12_stallByMoney_100 (by decide) (fun c_100 => ?_) (fun c_100 => ?_)
            · refine lv_iload_n C.1 C.2.1 dX12_stallByMoney_108 rfl (lv_at hl 2 rfl) ?_
              refine lv_istore_n (lv' := [(2, .int y), (0, .ref (mo 0)), (1, .int x), (3, .int (bI true)), (4, .int (nI i)), (5, .int a), (6, .int (nI o))]) C.1 C.2.1 dX12_stallByMoney_109 rfl hl (by decide) rfl (fun ls hl => ?_)
              refine lv_iinc (v := nI (i + 1)) (lv' := [(4, .int (nI (i + 1))), (2, .int y), (0, .ref (mo 0)), (1, .int x), (3, .int (bI true)), (5, .int a), (6, .int (nI o))]) C.1 C.2.1 dX12_stallByMoney_110 hl (k := 4) rfl (inc_nI i) (by decide) rfl (fun ls hl => ?_)
              refine lv_goto (tgt := 15) C.1 C.2.1 dX12_stallByMoney_113 (by decide) ?_
              exact ih15 (i + 1, y) (⟨by omega, by omega, by rw [sb_s, ← h3i, if_neg c_100]; exact h3⟩) _ _ hw _ (lv_sub hl [2, 3, 1, 4, 0] rfl)
            · refine lv_iload C.1 C.2.1 dX12_stallByMoney_103 (lv_at hl 4 rfl) ?_
              refine lv_goto (tgt := 109) C.1 C.2.1 dX12_stallByMoney_105 (by decide) ?_
              refine lv_istore_n (lv' := [(2, .int (nI i)), (0, .ref (mo 0)), (1, .int x), (3, .int (bI true)), (4, .int (nI i)), (5, .int a), (6, .int (nI o))]) C.1 C.2.1 dX12_stallByMoney_109 rfl hl (by decide) rfl (fun ls hl => ?_)
              refine lv_iinc (v := nI (i + 1)) (lv' := [(4, .int (nI (i + 1))), (2, .int (nI i)), (0, .ref (mo 0)), (1, .int x), (3, .int (bI true)), (5, .int a), (6, .int (nI o))]) C.1 C.2.1 dX12_stallByMoney_110 hl (k := 4) rfl (inc_nI i) (by decide) rfl (fun ls hl => ?_)
              refine lv_goto (tgt := 15) C.1 C.2.1 dX12_stallByMoney_113 (by decide) ?_
              exact ih15 (i + 1, (nI i)) (⟨by omega, by omega, by rw [sb_s, ← h3i, if_pos c_100]⟩) _ _ hw _ (lv_sub hl [2, 3, 1, 4, 0] rfl)
          · have ho := le_F j1 (by omega) c_44
            refine lv_aload_n C.1 C.2.1 dX12_stallByMoney_47 rfl (lv_at hl 0 rfl) ?_
            refine lv_iload C.1 C.2.1 dX12_stallByMoney_48 (lv_at hl 6 rfl) ?_
            refine lv_iconst (v := 0) C.1 C.2.1 dX12_stallByMoney_50 (by decide) ?_
            refine r_vi C hw (k12_stall hF (mo := mo) (U := (mI U 2 (bI (!isF (U.2 0) x)))) (X := X) (i := o) (k := 0) (by omega) (by omega)) ml_X12_59 yf_X12_stall 0 rfl rfl (As := [.int (nI o), .int 0]) rfl rfl ⟨Nat.le_of_ble_eq_true rfl, Nat.le_of_ble_eq_true rfl⟩ ⟨Nat.le_of_ble_eq_true rfl, Nat.le_of_ble_eq_true rfl⟩ hl.1 (Nat.le_of_ble_eq_true rfl) dX12_stallByMoney_51 (fun r_51 _ H locs hp_51 hw => ?_)
            obtain rfl : r_51 = sF (U.2 0) o 0 := hp_51
            replace hw : WH G s (moW G mo (mI U 2 (bI (!isF (U.2 0) x))) ++ X) H locs := hw
            refine lv_aload_n C.1 C.2.1 dX12_stallByMoney_54 rfl (lv_at hl 0 rfl) ?_
            refine lv_iload C.1 C.2.1 dX12_stallByMoney_55 (lv_at hl 4 rfl) ?_
            refine lv_iconst (v := 0) C.1 C.2.1 dX12_stallByMoney_57 (by decide) ?_
            refine r_vi C hw (k12_stall hF (mo := mo) (U := (mI U 2 (bI (!isF (U.2 0) x)))) (X := X) (i := i) (k := 0) (by omega) (by omega)) ml_X12_59 yf_X12_stall 0 rfl rfl (As := [.int (nI i), .int 0]) rfl rfl ⟨Nat.le_of_ble_eq_true rfl, Nat.le_of_ble_eq_true rfl⟩ ⟨Nat.le_of_ble_eq_true rfl, Nat.le_of_ble_eq_true rfl⟩ hl.1 (Nat.le_of_ble_eq_true rfl) dX12_stallByMoney_58 (fun r_58 _ H locs hp_58 hw => ?_)
            obtain rfl : r_58 = sF (U.2 0) i 0 := hp_58
            replace hw : WH G s (moW G mo (mI U 2 (bI (!isF (U.2 0) x))) ++ X) H locs := hw
            refine lv_isub C.1 C.2.1 dX12_stallByMoney_61 ?_
            refine lv_istore (lv' := [(7, .int ((sF (U.2 0) o 0) - (sF (U.2 0) i 0))), (0, .ref (mo 0)), (1, .int x), (2, .int y), (3, .int (bI true)), (4, .int (nI i)), (5, .int a), (6, .int (nI o))]) C.1 C.2.1 dX12_stallByMoney_62 hl (by decide) rfl (fun ls hl => ?_)
            refine lv_iload C.1 C.2.1 dX12_stallByMoney_64 (lv_at hl 6 rfl) ?_
            refine lv_iload C.1 C.2.1 dX12_stallByMoney_66 (lv_at hl 0 rfl) ?_
            refine lv_if_gt (tgt := 83) C.1 C.2.1 dX12_stallByMoney_68 (by decide) (fun c_68 => ?_) (fun c_68 => ?_)
            · refine lv_iconst (v := 1) C.1 C.2.1 dX12_stallByMoney_83 (by decide) ?_
              refine lv_goto (tgt := 88) C.1 C.2.1 dX12_stallByMoney_84 (by decide) ?_
              refine lv_iadd C.1 C.2.1 dX12_stallByMoney_88 ?_
              refine lv_istore (lv' := [(5, .int (a + 1)), (7, .int ((sF (U.2 0) o 0) - (sF (U.2 0) i 0))), (0, .ref (mo 0)), (1, .int x), (2, .int y), (3, .int (bI true)), (4, .int (nI i)), (6, .int (nI o))]) C.1 C.2.1 dX12_stallByMoney_89 hl (by decide) rfl (fun ls hl => ?_)
              refine lv_iinc (v := nI (o + 1)) (lv' := [(6, .int (nI (o + 1))), (5, .int (a + 1)), (7, .int ((sF (U.2 0) o 0) - (sF (U.2 0) i 0))), (0, .ref (mo 0)), (1, .int x), (2, .int y), (3, .int (bI true)), (4, .int (nI i))]) C.1 C.2.1 dX12_stallByMoney_91 hl (k := 7) rfl (inc_nI o) (by decide) rfl (fun ls hl => ?_)
              refine lv_goto (tgt := 36) C.1 C.2.1 dX12_stallByMoney_94 (by decide) ?_
              exact ih36 (o + 1, (a + 1)) (⟨by omega, by omega, by rw [j3, ab_t (by simp [abC, Int32.not_le.mpr c_68])]⟩) _ _ hw _ (lv_sub hl [3, 4, 5, 6, 7, 1, 0] rfl)
            · refine lv_iload C.1 C.2.1 dX12_stallByMoney_71 (lv_at hl 0 rfl) ?_
              refine lv_if_ne (tgt := 87) C.1 C.2.1 dX12_stallByMoney_73 (by decide) (fun c_73 => ?_) (fun c_73 => ?_)
              · refine lv_iconst (v := 0) C.1 C.2.1 dX12_stallByMoney_87 (by decide) ?_
                refine lv_iadd C.1 C.2.1 dX12_stallByMoney_88 ?_
                refine lv_istore (lv' := [(5, .int (a + 0)), (7, .int ((sF (U.2 0) o 0) - (sF (U.2 0) i 0))), (0, .ref (mo 0)), (1, .int x), (2, .int y), (3, .int (bI true)), (4, .int (nI i)), (6, .int (nI o))]) C.1 C.2.1 dX12_stallByMoney_89 hl (by decide) rfl (fun ls hl => ?_)
                refine lv_iinc (v := nI (o + 1)) (lv' := [(6, .int (nI (o + 1))), (5, .int (a + 0)), (7, .int ((sF (U.2 0) o 0) - (sF (U.2 0) i 0))), (0, .ref (mo 0)), (1, .int x), (2, .int y), (3, .int (bI true)), (4, .int (nI i))]) C.1 C.2.1 dX12_stallByMoney_91 hl (k := 7) rfl (inc_nI o) (by decide) rfl (fun ls hl => ?_)
                refine lv_goto (tgt := 36) C.1 C.2.1 dX12_stallByMoney_94 (by decide) ?_
                exact ih36 (o + 1, (a + 0)) (⟨by omega, by omega, by rw [j3, ab_f (by simp [abC, Int32.not_lt.mp c_68, c_73])]⟩) _ _ hw _ (lv_sub hl [3, 4, 5, 6, 7, 1, 0] rfl)
              · refine lv_iload C.1 C.2.1 dX12_stallByMoney_76 (lv_at hl 7 rfl) ?_
                refine lv_iload C.1 C.2.1 dX12_stallByMoney_78 (lv_at hl 5 rfl) ?_
                refine lv_icmp_ge (tgt := 87) C.1 C.2.1 dX12_stallByMoney_80 (by decide) (fun c_80 => ?_) (fun c_80 => ?_)
                · have hio : ¬ o < i := by rw [nI_leI (by omega) (by omega)] at c_80; omega
                  refine lv_iconst (v := 0) C.1 C.2.1 dX12_stallByMoney_87 (by decide) ?_
                  refine lv_iadd C.1 C.2.1 dX12_stallByMoney_88 ?_
                  refine lv_istore (lv' := [(5, .int (a + 0)), (7, .int ((sF (U.2 0) o 0) - (sF (U.2 0) i 0))), (0, .ref (mo 0)), (1, .int x), (2, .int y), (3, .int (bI true)), (4, .int (nI i)), (6, .int (nI o))]) C.1 C.2.1 dX12_stallByMoney_89 hl (by decide) rfl (fun ls hl => ?_)
                  refine lv_iinc (v := nI (o + 1)) (lv' := [(6, .int (nI (o + 1))), (5, .int (a + 0)), (7, .int ((sF (U.2 0) o 0) - (sF (U.2 0) i 0))), (0, .ref (mo 0)), (1, .int x), (2, .int y), (3, .int (bI true)), (4, .int (nI i))]) C.1 C.2.1 dX12_stallByMoney_91 hl (k := 7) rfl (inc_nI o) (by decide) rfl (fun ls hl => ?_)
                  refine lv_goto (tgt := 36) C.1 C.2.1 dX12_stallByMoney_94 (by decide) ?_
                  exact ih36 (o + 1, (a + 0)) (⟨by omega, by omega, by rw [j3, ab_f (by simp [abC, Int32.not_lt.mp c_68, c_73, hio])]⟩) _ _ hw _ (lv_sub hl [3, 4, 5, 6, 7, 1, 0] rfl)
                · have hio : o < i := by rw [nI_leI (by omega) (by omega)] at c_80; omega
                  refine lv_iconst (v := 1) C.1 C.2.1 dX12_stallByMoney_83 (by decide) ?_
                  refine lv_goto (tgt := 88) C.1 C.2.1 dX12_stallByMoney_84 (by decide) ?_
                  refine lv_iadd C.1 C.2.1 dX12_stallByMoney_88 ?_
                  refine lv_istore (lv' := [(5, .int (a + 1)), (7, .int ((sF (U.2 0) o 0) - (sF (U.2 0) i 0))), (0, .ref (mo 0)), (1, .int x), (2, .int y), (3, .int (bI true)), (4, .int (nI i)), (6, .int (nI o))]) C.1 C.2.1 dX12_stallByMoney_89 hl (by decide) rfl (fun ls hl => ?_)
                  refine lv_iinc (v := nI (o + 1)) (lv' := [(6, .int (nI (o + 1))), (5, .int (a + 1)), (7, .int ((sF (U.2 0) o 0) - (sF (U.2 0) i 0))), (0, .ref (mo 0)), (1, .int x), (2, .int y), (3, .int (bI true)), (4, .int (nI i))]) C.1 C.2.1 dX12_stallByMoney_91 hl (k := 7) rfl (inc_nI o) (by decide) rfl (fun ls hl => ?_)
                  refine lv_goto (tgt := 36) C.1 C.2.1 dX12_stallByMoney_94 (by decide) ?_
                  exact ih36 (o + 1, (a + 1)) (⟨by omega, by omega, by rw [j3, ab_t (by simp [abC, c_73, hio])]⟩) _ _ hw _ (lv_sub hl [3, 4, 5, 6, 7, 1, 0] rfl)
        · rintro ⟨o, a⟩ ⟨j1, j2, j3⟩; omega
    · rintro ⟨i, y⟩ ⟨h1, h2, h3⟩; omega

