/-! The model: what is asked of it, kept and ended -/
def kpU (U : MV_) : MV_ := mR (mI U 2 0) 1 (va_cpy (U.2 0) (U.2 1) 0 0 147)
theorem kp_0 {U : MV_} : (kpU U).2 0 = U.2 0 := by simp [kpU, mR, mI, va_up]
theorem kp_1 {U : MV_} : (kpU U).1 1 = U.1 1 := by simp [kpU, mR, mI, va_up]
theorem mI_ne {U : MV_} {k j : Nat} {x : Int32} (h : ¬ j = k) : (mI U k x).1 j = U.1 j := by simp [mI, va_up, h]
theorem mR_1 {U : MV_} {k : Nat} {f : Nat → Int32} : (mR U k f).1 = U.1 := rfl
theorem asM_1 {U : MV_} {x y : Int32} : (asM U x y).1.1 1 = U.1 1 := by
  unfold asM; split
  · exact mI_ne (by decide)
  · split
    · exact mI_ne (by decide)
    · rfl
theorem caM_1 {U : MV_} {x : Int32} : (caM U x).1.1 1 = U.1 1 := by
  unfold caM; split
  · exact mI_ne (by decide)
  · rfl
theorem opnM_1 {U : MV_} : (opnM U).1.1 1 = U.1 1 := by
  unfold opnM; split
  · exact mI_ne (by decide)
  · rfl
theorem psM_1 {U : MV_} {x : Int32} : (psM U x).1.1 1 = U.1 1 := by
  unfold psM; split
  · exact mI_ne (by decide)
  · rfl
theorem opM_1 {U : MV_} {x : Int32} {b : Bool} {pr q mi : Int32} : (opM U x b pr q mi).1.1 1 = U.1 1 := by
  unfold opM; split
  · unfold opE; split
    · rfl
    · split <;> rfl
  · exact mI_ne (by decide)
theorem clM_1 {U : MV_} : (clM U).1.1 1 = U.1 1 := by
  unfold clM; split
  · exact mI_ne (by decide)
  · split <;> rfl
def mfR (x : Int32) : Int32 := if inR x 1 60 = true then x else 61

set_option maxHeartbeats 4000000 in
set_option maxRecDepth 100000 in
theorem k12_minutesFor {l : Launch} {G : Gx} (hF : SF l G) {X : va_W} (x : Int32) : MI l G yX12_minutesFor cX12_minutesFor 1 .int 1 0 0 [.int x] X (fun r (_ : Unit) => r = mfR x) (fun _ => X) := by
  refine mt_of hF (by decide) (Nat.le_of_ble_eq_true rfl) ?_
  intro p e s m below meth c C hin ls hl H locs hw
  have hl : lv_has ls 1 [(0, .int x)] := hl
  refine lv_iload_n C.1 C.2.1 dX12_minutesFor_0 rfl (lv_at hl 0 rfl) ?_
  refine lv_iconst (v := 1) C.1 C.2.1 dX12_minutesFor_1 (by decide) ?_
  refine lv_bipush (v := 60) C.1 C.2.1 dX12_minutesFor_2 (by decide) ?_
  refine r_si C hw (k12_in hF (X := X) x 1 60) ml_X12_51 yf_X12_in (As := [.int x, .int 1, .int 60]) rfl rfl ⟨Nat.le_of_ble_eq_true rfl, Nat.le_of_ble_eq_true rfl⟩ ⟨Nat.le_of_ble_eq_true rfl, Nat.le_of_ble_eq_true rfl⟩ hl.1 (Nat.le_of_ble_eq_true rfl) dX12_minutesFor_4 (fun r_4 _ H locs hp_4 hw => ?_)
  obtain rfl : r_4 = bI (inR x 1 60) := hp_4
  replace hw : WH G s (X) H locs := hw
  refine lv_if_eq (tgt := 14) C.1 C.2.1 dX12_minutesFor_7 (by decide) (fun c_7 => ?_) (fun c_7 => ?_)
  · have b_7 := bI_eq0.mp c_7
    refine lv_bipush (v := 61) C.1 C.2.1 dX12_minutesFor_14 (by decide) ?_
    exact r_iret C hw rfl rfl () (by simp [mfR, b_7]) rfl (Nat.le_of_ble_eq_true rfl) (Nat.le_of_ble_eq_true rfl) dX12_minutesFor_16
  · have b_7 := bI_ne0.mp c_7
    refine lv_iload_n C.1 C.2.1 dX12_minutesFor_10 rfl (lv_at hl 0 rfl) ?_
    refine lv_goto (tgt := 16) C.1 C.2.1 dX12_minutesFor_11 (by decide) ?_
    exact r_iret C hw rfl rfl () (by simp [mfR, b_7]) rfl (Nat.le_of_ble_eq_true rfl) (Nat.le_of_ble_eq_true rfl) dX12_minutesFor_16

set_option maxHeartbeats 4000000 in
set_option maxRecDepth 100000 in
theorem k12_addStall {l : Launch} {G : Gx} (hF : SF l G) {mo : Nat → Nat} {U : MV_} {X : va_W} (hok : okF (U.2 0)) {h : Nat} (hh1 : U.1 1 = nI h) (hh8 : h ≤ 8) (x y : Int32) : MI l G yX12_addStall cX12_addStall 3 .int 2 0 0 [.ref (mo 0), .int x, .int y] (moW G mo U ++ X) (fun r _ => r = endA (asM (kpU U) x y).1 (asM (kpU U) x y).2) (fun _ : Unit => moW G mo (endU (asM (kpU U) x y).1 h) ++ X) := by
  refine mt_of hF (by decide) (Nat.le_of_ble_eq_true rfl) ?_
  intro p e s m below meth c C hin ls hl H locs hw
  have hl : lv_has ls 3 [(0, .ref (mo 0)), (1, .int x), (2, .int y)] := hl
  refine lv_aload_n C.1 C.2.1 dX12_addStall_0 rfl (lv_at hl 0 rfl) ?_
  refine r_vv C hw (k12_keep hF (mo := mo) (U := U) (X := X)) ml_X12_101 yf_X12_keep 0 rfl rfl (As := []) rfl rfl ⟨Nat.le_of_ble_eq_true rfl, Nat.le_of_ble_eq_true rfl⟩ ⟨Nat.le_of_ble_eq_true rfl, Nat.le_of_ble_eq_true rfl⟩ hl.1 (Nat.le_of_ble_eq_true rfl) dX12_addStall_1 (fun _ H locs hp_1 hw => ?_)
  replace hw : WH G s (moW G mo (kpU U) ++ X) H locs := hw
  refine lv_aload_n C.1 C.2.1 dX12_addStall_4 rfl (lv_at hl 0 rfl) ?_
  refine lv_aload_n C.1 C.2.1 dX12_addStall_5 rfl (lv_at hl 0 rfl) ?_
  refine lv_iload_n C.1 C.2.1 dX12_addStall_6 rfl (lv_at hl 1 rfl) ?_
  refine lv_iload_n C.1 C.2.1 dX12_addStall_7 rfl (lv_at hl 2 rfl) ?_
  refine r_vi C hw (k12_doAddStall hF (mo := mo) (U := (kpU U)) (X := X) (show okF ((kpU U).2 0) from by rw [kp_0]; exact hok) x y) ml_X12_104 yf_X12_doAddStall 0 rfl rfl (As := [.int x, .int y]) rfl rfl ⟨Nat.le_of_ble_eq_true rfl, Nat.le_of_ble_eq_true rfl⟩ ⟨Nat.le_of_ble_eq_true rfl, Nat.le_of_ble_eq_true rfl⟩ hl.1 (Nat.le_of_ble_eq_true rfl) dX12_addStall_8 (fun r_8 _ H locs hp_8 hw => ?_)
  obtain rfl : r_8 = (asM (kpU U) x y).2 := hp_8
  replace hw : WH G s (moW G mo (asM (kpU U) x y).1 ++ X) H locs := hw
  refine r_vi C hw (k12_ends hF (mo := mo) (U := (asM (kpU U) x y).1) (X := X) (h := h) (by rw [asM_1, kp_1]; exact hh1) hh8 ((asM (kpU U) x y).2)) ml_X12_107 yf_X12_ends 0 rfl rfl (As := [.int (asM (kpU U) x y).2]) rfl rfl ⟨Nat.le_of_ble_eq_true rfl, Nat.le_of_ble_eq_true rfl⟩ ⟨Nat.le_of_ble_eq_true rfl, Nat.le_of_ble_eq_true rfl⟩ hl.1 (Nat.le_of_ble_eq_true rfl) dX12_addStall_11 (fun r_11 _ H locs hp_11 hw => ?_)
  obtain rfl : r_11 = endA ((asM (kpU U) x y).1) ((asM (kpU U) x y).2) := hp_11
  replace hw : WH G s (moW G mo (endU ((asM (kpU U) x y).1) h) ++ X) H locs := hw
  exact r_iret C hw rfl rfl () (rfl) rfl (Nat.le_of_ble_eq_true rfl) (Nat.le_of_ble_eq_true rfl) dX12_addStall_14

set_option maxHeartbeats 4000000 in
set_option maxRecDepth 100000 in
theorem k12_placeBuy {l : Launch} {G : Gx} (hF : SF l G) {mo : Nat → Nat} {U : MV_} {X : va_W} (hok : okF (U.2 0)) {h : Nat} (hh1 : U.1 1 = nI h) (hh8 : h ≤ 8) (x pr q : Int32) : MI l G yX12_placeBuy cX12_placeBuy 4 .int 5 0 0 [.ref (mo 0), .int x, .int pr, .int q] (moW G mo U ++ X) (fun r _ => r = endA (opM (kpU U) x true pr q 0).1 (opM (kpU U) x true pr q 0).2) (fun _ : Unit => moW G mo (endU (opM (kpU U) x true pr q 0).1 h) ++ X) := by
  refine mt_of hF (by decide) (Nat.le_of_ble_eq_true rfl) ?_
  intro p e s m below meth c C hin ls hl H locs hw
  have hl : lv_has ls 4 [(0, .ref (mo 0)), (1, .int x), (2, .int pr), (3, .int q)] := hl
  refine lv_aload_n C.1 C.2.1 dX12_placeBuy_0 rfl (lv_at hl 0 rfl) ?_
  refine r_vv C hw (k12_keep hF (mo := mo) (U := U) (X := X)) ml_X12_101 yf_X12_keep 0 rfl rfl (As := []) rfl rfl ⟨Nat.le_of_ble_eq_true rfl, Nat.le_of_ble_eq_true rfl⟩ ⟨Nat.le_of_ble_eq_true rfl, Nat.le_of_ble_eq_true rfl⟩ hl.1 (Nat.le_of_ble_eq_true rfl) dX12_placeBuy_1 (fun _ H locs hp_1 hw => ?_)
  replace hw : WH G s (moW G mo (kpU U) ++ X) H locs := hw
  refine lv_aload_n C.1 C.2.1 dX12_placeBuy_4 rfl (lv_at hl 0 rfl) ?_
  refine lv_aload_n C.1 C.2.1 dX12_placeBuy_5 rfl (lv_at hl 0 rfl) ?_
  refine lv_iload_n C.1 C.2.1 dX12_placeBuy_6 rfl (lv_at hl 1 rfl) ?_
  refine lv_iconst (v := 1) C.1 C.2.1 dX12_placeBuy_7 (by decide) ?_
  refine lv_iload_n C.1 C.2.1 dX12_placeBuy_8 rfl (lv_at hl 2 rfl) ?_
  refine lv_iload_n C.1 C.2.1 dX12_placeBuy_9 rfl (lv_at hl 3 rfl) ?_
  refine lv_iconst (v := 0) C.1 C.2.1 dX12_placeBuy_10 (by decide) ?_
  refine r_vi C hw (k12_doPlace hF (mo := mo) (U := (kpU U)) (X := X) (show okF ((kpU U).2 0) from by rw [kp_0]; exact hok) x true pr q 0) ml_X12_110 yf_X12_doPlace 0 rfl rfl (As := [.int x, .int 1, .int pr, .int q, .int 0]) rfl rfl ⟨Nat.le_of_ble_eq_true rfl, Nat.le_of_ble_eq_true rfl⟩ ⟨Nat.le_of_ble_eq_true rfl, Nat.le_of_ble_eq_true rfl⟩ hl.1 (Nat.le_of_ble_eq_true rfl) dX12_placeBuy_11 (fun r_11 _ H locs hp_11 hw => ?_)
  obtain rfl : r_11 = (opM (kpU U) x true pr q 0).2 := hp_11
  replace hw : WH G s (moW G mo (opM (kpU U) x true pr q 0).1 ++ X) H locs := hw
  refine r_vi C hw (k12_ends hF (mo := mo) (U := (opM (kpU U) x true pr q 0).1) (X := X) (h := h) (by rw [opM_1, kp_1]; exact hh1) hh8 ((opM (kpU U) x true pr q 0).2)) ml_X12_107 yf_X12_ends 0 rfl rfl (As := [.int (opM (kpU U) x true pr q 0).2]) rfl rfl ⟨Nat.le_of_ble_eq_true rfl, Nat.le_of_ble_eq_true rfl⟩ ⟨Nat.le_of_ble_eq_true rfl, Nat.le_of_ble_eq_true rfl⟩ hl.1 (Nat.le_of_ble_eq_true rfl) dX12_placeBuy_14 (fun r_14 _ H locs hp_14 hw => ?_)
  obtain rfl : r_14 = endA ((opM (kpU U) x true pr q 0).1) ((opM (kpU U) x true pr q 0).2) := hp_14
  replace hw : WH G s (moW G mo (endU ((opM (kpU U) x true pr q 0).1) h) ++ X) H locs := hw
  exact r_iret C hw rfl rfl () (rfl) rfl (Nat.le_of_ble_eq_true rfl) (Nat.le_of_ble_eq_true rfl) dX12_placeBuy_17

set_option maxHeartbeats 4000000 in
set_option maxRecDepth 100000 in
theorem k12_placeBuyFor {l : Launch} {G : Gx} (hF : SF l G) {mo : Nat → Nat} {U : MV_} {X : va_W} (hok : okF (U.2 0)) {h : Nat} (hh1 : U.1 1 = nI h) (hh8 : h ≤ 8) (x pr q mi : Int32) : MI l G yX12_placeBuyFor cX12_placeBuyFor 5 .int 5 0 0 [.ref (mo 0), .int x, .int pr, .int q, .int mi] (moW G mo U ++ X) (fun r _ => r = endA (opM (kpU U) x true pr q (mfR mi)).1 (opM (kpU U) x true pr q (mfR mi)).2) (fun _ : Unit => moW G mo (endU (opM (kpU U) x true pr q (mfR mi)).1 h) ++ X) := by
  refine mt_of hF (by decide) (Nat.le_of_ble_eq_true rfl) ?_
  intro p e s m below meth c C hin ls hl H locs hw
  have hl : lv_has ls 5 [(0, .ref (mo 0)), (1, .int x), (2, .int pr), (3, .int q), (4, .int mi)] := hl
  refine lv_aload_n C.1 C.2.1 dX12_placeBuyFor_0 rfl (lv_at hl 0 rfl) ?_
  refine r_vv C hw (k12_keep hF (mo := mo) (U := U) (X := X)) ml_X12_101 yf_X12_keep 0 rfl rfl (As := []) rfl rfl ⟨Nat.le_of_ble_eq_true rfl, Nat.le_of_ble_eq_true rfl⟩ ⟨Nat.le_of_ble_eq_true rfl, Nat.le_of_ble_eq_true rfl⟩ hl.1 (Nat.le_of_ble_eq_true rfl) dX12_placeBuyFor_1 (fun _ H locs hp_1 hw => ?_)
  replace hw : WH G s (moW G mo (kpU U) ++ X) H locs := hw
  refine lv_aload_n C.1 C.2.1 dX12_placeBuyFor_4 rfl (lv_at hl 0 rfl) ?_
  refine lv_aload_n C.1 C.2.1 dX12_placeBuyFor_5 rfl (lv_at hl 0 rfl) ?_
  refine lv_iload_n C.1 C.2.1 dX12_placeBuyFor_6 rfl (lv_at hl 1 rfl) ?_
  refine lv_iconst (v := 1) C.1 C.2.1 dX12_placeBuyFor_7 (by decide) ?_
  refine lv_iload_n C.1 C.2.1 dX12_placeBuyFor_8 rfl (lv_at hl 2 rfl) ?_
  refine lv_iload_n C.1 C.2.1 dX12_placeBuyFor_9 rfl (lv_at hl 3 rfl) ?_
  refine lv_iload C.1 C.2.1 dX12_placeBuyFor_10 (lv_at hl 4 rfl) ?_
  refine r_si C hw (k12_minutesFor hF (X := moW G mo (kpU U) ++ X) mi) ml_X12_114 yf_X12_minutesFor (As := [.int mi]) rfl rfl ⟨Nat.le_of_ble_eq_true rfl, Nat.le_of_ble_eq_true rfl⟩ ⟨Nat.le_of_ble_eq_true rfl, Nat.le_of_ble_eq_true rfl⟩ hl.1 (Nat.le_of_ble_eq_true rfl) dX12_placeBuyFor_12 (fun r_12 _ H locs hp_12 hw => ?_)
  obtain rfl : r_12 = mfR mi := hp_12
  replace hw : WH G s (moW G mo (kpU U) ++ X) H locs := hw
  refine r_vi C hw (k12_doPlace hF (mo := mo) (U := (kpU U)) (X := X) (show okF ((kpU U).2 0) from by rw [kp_0]; exact hok) x true pr q (mfR mi)) ml_X12_110 yf_X12_doPlace 0 rfl rfl (As := [.int x, .int 1, .int pr, .int q, .int (mfR mi)]) rfl rfl ⟨Nat.le_of_ble_eq_true rfl, Nat.le_of_ble_eq_true rfl⟩ ⟨Nat.le_of_ble_eq_true rfl, Nat.le_of_ble_eq_true rfl⟩ hl.1 (Nat.le_of_ble_eq_true rfl) dX12_placeBuyFor_15 (fun r_15 _ H locs hp_15 hw => ?_)
  obtain rfl : r_15 = (opM (kpU U) x true pr q (mfR mi)).2 := hp_15
  replace hw : WH G s (moW G mo (opM (kpU U) x true pr q (mfR mi)).1 ++ X) H locs := hw
  refine r_vi C hw (k12_ends hF (mo := mo) (U := (opM (kpU U) x true pr q (mfR mi)).1) (X := X) (h := h) (by rw [opM_1, kp_1]; exact hh1) hh8 ((opM (kpU U) x true pr q (mfR mi)).2)) ml_X12_107 yf_X12_ends 0 rfl rfl (As := [.int (opM (kpU U) x true pr q (mfR mi)).2]) rfl rfl ⟨Nat.le_of_ble_eq_true rfl, Nat.le_of_ble_eq_true rfl⟩ ⟨Nat.le_of_ble_eq_true rfl, Nat.le_of_ble_eq_true rfl⟩ hl.1 (Nat.le_of_ble_eq_true rfl) dX12_placeBuyFor_18 (fun r_18 _ H locs hp_18 hw => ?_)
  obtain rfl : r_18 = endA ((opM (kpU U) x true pr q (mfR mi)).1) ((opM (kpU U) x true pr q (mfR mi)).2) := hp_18
  replace hw : WH G s (moW G mo (endU ((opM (kpU U) x true pr q (mfR mi)).1) h) ++ X) H locs := hw
  exact r_iret C hw rfl rfl () (rfl) rfl (Nat.le_of_ble_eq_true rfl) (Nat.le_of_ble_eq_true rfl) dX12_placeBuyFor_21

set_option maxHeartbeats 4000000 in
set_option maxRecDepth 100000 in
theorem k12_takeBuy {l : Launch} {G : Gx} (hF : SF l G) {mo : Nat → Nat} {U : MV_} {X : va_W} (hok : okF (U.2 0)) {h : Nat} (hh1 : U.1 1 = nI h) (hh8 : h ≤ 8) (x pr q : Int32) : MI l G yX12_takeBuy cX12_takeBuy 4 .int 5 0 0 [.ref (mo 0), .int x, .int pr, .int q] (moW G mo U ++ X) (fun r _ => r = endA (opM (kpU U) x true pr q (-1)).1 (opM (kpU U) x true pr q (-1)).2) (fun _ : Unit => moW G mo (endU (opM (kpU U) x true pr q (-1)).1 h) ++ X) := by
  refine mt_of hF (by decide) (Nat.le_of_ble_eq_true rfl) ?_
  intro p e s m below meth c C hin ls hl H locs hw
  have hl : lv_has ls 4 [(0, .ref (mo 0)), (1, .int x), (2, .int pr), (3, .int q)] := hl
  refine lv_aload_n C.1 C.2.1 dX12_takeBuy_0 rfl (lv_at hl 0 rfl) ?_
  refine r_vv C hw (k12_keep hF (mo := mo) (U := U) (X := X)) ml_X12_101 yf_X12_keep 0 rfl rfl (As := []) rfl rfl ⟨Nat.le_of_ble_eq_true rfl, Nat.le_of_ble_eq_true rfl⟩ ⟨Nat.le_of_ble_eq_true rfl, Nat.le_of_ble_eq_true rfl⟩ hl.1 (Nat.le_of_ble_eq_true rfl) dX12_takeBuy_1 (fun _ H locs hp_1 hw => ?_)
  replace hw : WH G s (moW G mo (kpU U) ++ X) H locs := hw
  refine lv_aload_n C.1 C.2.1 dX12_takeBuy_4 rfl (lv_at hl 0 rfl) ?_
  refine lv_aload_n C.1 C.2.1 dX12_takeBuy_5 rfl (lv_at hl 0 rfl) ?_
  refine lv_iload_n C.1 C.2.1 dX12_takeBuy_6 rfl (lv_at hl 1 rfl) ?_
  refine lv_iconst (v := 1) C.1 C.2.1 dX12_takeBuy_7 (by decide) ?_
  refine lv_iload_n C.1 C.2.1 dX12_takeBuy_8 rfl (lv_at hl 2 rfl) ?_
  refine lv_iload_n C.1 C.2.1 dX12_takeBuy_9 rfl (lv_at hl 3 rfl) ?_
  refine lv_iconst (v := -1) C.1 C.2.1 dX12_takeBuy_10 (by decide) ?_
  refine r_vi C hw (k12_doPlace hF (mo := mo) (U := (kpU U)) (X := X) (show okF ((kpU U).2 0) from by rw [kp_0]; exact hok) x true pr q (-1)) ml_X12_110 yf_X12_doPlace 0 rfl rfl (As := [.int x, .int 1, .int pr, .int q, .int (-1)]) rfl rfl ⟨Nat.le_of_ble_eq_true rfl, Nat.le_of_ble_eq_true rfl⟩ ⟨Nat.le_of_ble_eq_true rfl, Nat.le_of_ble_eq_true rfl⟩ hl.1 (Nat.le_of_ble_eq_true rfl) dX12_takeBuy_11 (fun r_11 _ H locs hp_11 hw => ?_)
  obtain rfl : r_11 = (opM (kpU U) x true pr q (-1)).2 := hp_11
  replace hw : WH G s (moW G mo (opM (kpU U) x true pr q (-1)).1 ++ X) H locs := hw
  refine r_vi C hw (k12_ends hF (mo := mo) (U := (opM (kpU U) x true pr q (-1)).1) (X := X) (h := h) (by rw [opM_1, kp_1]; exact hh1) hh8 ((opM (kpU U) x true pr q (-1)).2)) ml_X12_107 yf_X12_ends 0 rfl rfl (As := [.int (opM (kpU U) x true pr q (-1)).2]) rfl rfl ⟨Nat.le_of_ble_eq_true rfl, Nat.le_of_ble_eq_true rfl⟩ ⟨Nat.le_of_ble_eq_true rfl, Nat.le_of_ble_eq_true rfl⟩ hl.1 (Nat.le_of_ble_eq_true rfl) dX12_takeBuy_14 (fun r_14 _ H locs hp_14 hw => ?_)
  obtain rfl : r_14 = endA ((opM (kpU U) x true pr q (-1)).1) ((opM (kpU U) x true pr q (-1)).2) := hp_14
  replace hw : WH G s (moW G mo (endU ((opM (kpU U) x true pr q (-1)).1) h) ++ X) H locs := hw
  exact r_iret C hw rfl rfl () (rfl) rfl (Nat.le_of_ble_eq_true rfl) (Nat.le_of_ble_eq_true rfl) dX12_takeBuy_17

set_option maxHeartbeats 4000000 in
set_option maxRecDepth 100000 in
theorem k12_placeSell {l : Launch} {G : Gx} (hF : SF l G) {mo : Nat → Nat} {U : MV_} {X : va_W} (hok : okF (U.2 0)) {h : Nat} (hh1 : U.1 1 = nI h) (hh8 : h ≤ 8) (x pr q : Int32) : MI l G yX12_placeSell cX12_placeSell 4 .int 5 0 0 [.ref (mo 0), .int x, .int pr, .int q] (moW G mo U ++ X) (fun r _ => r = endA (opM (kpU U) x false pr q 0).1 (opM (kpU U) x false pr q 0).2) (fun _ : Unit => moW G mo (endU (opM (kpU U) x false pr q 0).1 h) ++ X) := by
  refine mt_of hF (by decide) (Nat.le_of_ble_eq_true rfl) ?_
  intro p e s m below meth c C hin ls hl H locs hw
  have hl : lv_has ls 4 [(0, .ref (mo 0)), (1, .int x), (2, .int pr), (3, .int q)] := hl
  refine lv_aload_n C.1 C.2.1 dX12_placeSell_0 rfl (lv_at hl 0 rfl) ?_
  refine r_vv C hw (k12_keep hF (mo := mo) (U := U) (X := X)) ml_X12_101 yf_X12_keep 0 rfl rfl (As := []) rfl rfl ⟨Nat.le_of_ble_eq_true rfl, Nat.le_of_ble_eq_true rfl⟩ ⟨Nat.le_of_ble_eq_true rfl, Nat.le_of_ble_eq_true rfl⟩ hl.1 (Nat.le_of_ble_eq_true rfl) dX12_placeSell_1 (fun _ H locs hp_1 hw => ?_)
  replace hw : WH G s (moW G mo (kpU U) ++ X) H locs := hw
  refine lv_aload_n C.1 C.2.1 dX12_placeSell_4 rfl (lv_at hl 0 rfl) ?_
  refine lv_aload_n C.1 C.2.1 dX12_placeSell_5 rfl (lv_at hl 0 rfl) ?_
  refine lv_iload_n C.1 C.2.1 dX12_placeSell_6 rfl (lv_at hl 1 rfl) ?_
  refine lv_iconst (v := 0) C.1 C.2.1 dX12_placeSell_7 (by decide) ?_
  refine lv_iload_n C.1 C.2.1 dX12_placeSell_8 rfl (lv_at hl 2 rfl) ?_
  refine lv_iload_n C.1 C.2.1 dX12_placeSell_9 rfl (lv_at hl 3 rfl) ?_
  refine lv_iconst (v := 0) C.1 C.2.1 dX12_placeSell_10 (by decide) ?_
  refine r_vi C hw (k12_doPlace hF (mo := mo) (U := (kpU U)) (X := X) (show okF ((kpU U).2 0) from by rw [kp_0]; exact hok) x false pr q 0) ml_X12_110 yf_X12_doPlace 0 rfl rfl (As := [.int x, .int 0, .int pr, .int q, .int 0]) rfl rfl ⟨Nat.le_of_ble_eq_true rfl, Nat.le_of_ble_eq_true rfl⟩ ⟨Nat.le_of_ble_eq_true rfl, Nat.le_of_ble_eq_true rfl⟩ hl.1 (Nat.le_of_ble_eq_true rfl) dX12_placeSell_11 (fun r_11 _ H locs hp_11 hw => ?_)
  obtain rfl : r_11 = (opM (kpU U) x false pr q 0).2 := hp_11
  replace hw : WH G s (moW G mo (opM (kpU U) x false pr q 0).1 ++ X) H locs := hw
  refine r_vi C hw (k12_ends hF (mo := mo) (U := (opM (kpU U) x false pr q 0).1) (X := X) (h := h) (by rw [opM_1, kp_1]; exact hh1) hh8 ((opM (kpU U) x false pr q 0).2)) ml_X12_107 yf_X12_ends 0 rfl rfl (As := [.int (opM (kpU U) x false pr q 0).2]) rfl rfl ⟨Nat.le_of_ble_eq_true rfl, Nat.le_of_ble_eq_true rfl⟩ ⟨Nat.le_of_ble_eq_true rfl, Nat.le_of_ble_eq_true rfl⟩ hl.1 (Nat.le_of_ble_eq_true rfl) dX12_placeSell_14 (fun r_14 _ H locs hp_14 hw => ?_)
  obtain rfl : r_14 = endA ((opM (kpU U) x false pr q 0).1) ((opM (kpU U) x false pr q 0).2) := hp_14
  replace hw : WH G s (moW G mo (endU ((opM (kpU U) x false pr q 0).1) h) ++ X) H locs := hw
  exact r_iret C hw rfl rfl () (rfl) rfl (Nat.le_of_ble_eq_true rfl) (Nat.le_of_ble_eq_true rfl) dX12_placeSell_17

set_option maxHeartbeats 4000000 in
set_option maxRecDepth 100000 in
theorem k12_placeSellFor {l : Launch} {G : Gx} (hF : SF l G) {mo : Nat → Nat} {U : MV_} {X : va_W} (hok : okF (U.2 0)) {h : Nat} (hh1 : U.1 1 = nI h) (hh8 : h ≤ 8) (x pr q mi : Int32) : MI l G yX12_placeSellFor cX12_placeSellFor 5 .int 5 0 0 [.ref (mo 0), .int x, .int pr, .int q, .int mi] (moW G mo U ++ X) (fun r _ => r = endA (opM (kpU U) x false pr q (mfR mi)).1 (opM (kpU U) x false pr q (mfR mi)).2) (fun _ : Unit => moW G mo (endU (opM (kpU U) x false pr q (mfR mi)).1 h) ++ X) := by
  refine mt_of hF (by decide) (Nat.le_of_ble_eq_true rfl) ?_
  intro p e s m below meth c C hin ls hl H locs hw
  have hl : lv_has ls 5 [(0, .ref (mo 0)), (1, .int x), (2, .int pr), (3, .int q), (4, .int mi)] := hl
  refine lv_aload_n C.1 C.2.1 dX12_placeSellFor_0 rfl (lv_at hl 0 rfl) ?_
  refine r_vv C hw (k12_keep hF (mo := mo) (U := U) (X := X)) ml_X12_101 yf_X12_keep 0 rfl rfl (As := []) rfl rfl ⟨Nat.le_of_ble_eq_true rfl, Nat.le_of_ble_eq_true rfl⟩ ⟨Nat.le_of_ble_eq_true rfl, Nat.le_of_ble_eq_true rfl⟩ hl.1 (Nat.le_of_ble_eq_true rfl) dX12_placeSellFor_1 (fun _ H locs hp_1 hw => ?_)
  replace hw : WH G s (moW G mo (kpU U) ++ X) H locs := hw
  refine lv_aload_n C.1 C.2.1 dX12_placeSellFor_4 rfl (lv_at hl 0 rfl) ?_
  refine lv_aload_n C.1 C.2.1 dX12_placeSellFor_5 rfl (lv_at hl 0 rfl) ?_
  refine lv_iload_n C.1 C.2.1 dX12_placeSellFor_6 rfl (lv_at hl 1 rfl) ?_
  refine lv_iconst (v := 0) C.1 C.2.1 dX12_placeSellFor_7 (by decide) ?_
  refine lv_iload_n C.1 C.2.1 dX12_placeSellFor_8 rfl (lv_at hl 2 rfl) ?_
  refine lv_iload_n C.1 C.2.1 dX12_placeSellFor_9 rfl (lv_at hl 3 rfl) ?_
  refine lv_iload C.1 C.2.1 dX12_placeSellFor_10 (lv_at hl 4 rfl) ?_
  refine r_si C hw (k12_minutesFor hF (X := moW G mo (kpU U) ++ X) mi) ml_X12_114 yf_X12_minutesFor (As := [.int mi]) rfl rfl ⟨Nat.le_of_ble_eq_true rfl, Nat.le_of_ble_eq_true rfl⟩ ⟨Nat.le_of_ble_eq_true rfl, Nat.le_of_ble_eq_true rfl⟩ hl.1 (Nat.le_of_ble_eq_true rfl) dX12_placeSellFor_12 (fun r_12 _ H locs hp_12 hw => ?_)
  obtain rfl : r_12 = mfR mi := hp_12
  replace hw : WH G s (moW G mo (kpU U) ++ X) H locs := hw
  refine r_vi C hw (k12_doPlace hF (mo := mo) (U := (kpU U)) (X := X) (show okF ((kpU U).2 0) from by rw [kp_0]; exact hok) x false pr q (mfR mi)) ml_X12_110 yf_X12_doPlace 0 rfl rfl (As := [.int x, .int 0, .int pr, .int q, .int (mfR mi)]) rfl rfl ⟨Nat.le_of_ble_eq_true rfl, Nat.le_of_ble_eq_true rfl⟩ ⟨Nat.le_of_ble_eq_true rfl, Nat.le_of_ble_eq_true rfl⟩ hl.1 (Nat.le_of_ble_eq_true rfl) dX12_placeSellFor_15 (fun r_15 _ H locs hp_15 hw => ?_)
  obtain rfl : r_15 = (opM (kpU U) x false pr q (mfR mi)).2 := hp_15
  replace hw : WH G s (moW G mo (opM (kpU U) x false pr q (mfR mi)).1 ++ X) H locs := hw
  refine r_vi C hw (k12_ends hF (mo := mo) (U := (opM (kpU U) x false pr q (mfR mi)).1) (X := X) (h := h) (by rw [opM_1, kp_1]; exact hh1) hh8 ((opM (kpU U) x false pr q (mfR mi)).2)) ml_X12_107 yf_X12_ends 0 rfl rfl (As := [.int (opM (kpU U) x false pr q (mfR mi)).2]) rfl rfl ⟨Nat.le_of_ble_eq_true rfl, Nat.le_of_ble_eq_true rfl⟩ ⟨Nat.le_of_ble_eq_true rfl, Nat.le_of_ble_eq_true rfl⟩ hl.1 (Nat.le_of_ble_eq_true rfl) dX12_placeSellFor_18 (fun r_18 _ H locs hp_18 hw => ?_)
  obtain rfl : r_18 = endA ((opM (kpU U) x false pr q (mfR mi)).1) ((opM (kpU U) x false pr q (mfR mi)).2) := hp_18
  replace hw : WH G s (moW G mo (endU ((opM (kpU U) x false pr q (mfR mi)).1) h) ++ X) H locs := hw
  exact r_iret C hw rfl rfl () (rfl) rfl (Nat.le_of_ble_eq_true rfl) (Nat.le_of_ble_eq_true rfl) dX12_placeSellFor_21

set_option maxHeartbeats 4000000 in
set_option maxRecDepth 100000 in
theorem k12_takeSell {l : Launch} {G : Gx} (hF : SF l G) {mo : Nat → Nat} {U : MV_} {X : va_W} (hok : okF (U.2 0)) {h : Nat} (hh1 : U.1 1 = nI h) (hh8 : h ≤ 8) (x pr q : Int32) : MI l G yX12_takeSell cX12_takeSell 4 .int 5 0 0 [.ref (mo 0), .int x, .int pr, .int q] (moW G mo U ++ X) (fun r _ => r = endA (opM (kpU U) x false pr q (-1)).1 (opM (kpU U) x false pr q (-1)).2) (fun _ : Unit => moW G mo (endU (opM (kpU U) x false pr q (-1)).1 h) ++ X) := by
  refine mt_of hF (by decide) (Nat.le_of_ble_eq_true rfl) ?_
  intro p e s m below meth c C hin ls hl H locs hw
  have hl : lv_has ls 4 [(0, .ref (mo 0)), (1, .int x), (2, .int pr), (3, .int q)] := hl
  refine lv_aload_n C.1 C.2.1 dX12_takeSell_0 rfl (lv_at hl 0 rfl) ?_
  refine r_vv C hw (k12_keep hF (mo := mo) (U := U) (X := X)) ml_X12_101 yf_X12_keep 0 rfl rfl (As := []) rfl rfl ⟨Nat.le_of_ble_eq_true rfl, Nat.le_of_ble_eq_true rfl⟩ ⟨Nat.le_of_ble_eq_true rfl, Nat.le_of_ble_eq_true rfl⟩ hl.1 (Nat.le_of_ble_eq_true rfl) dX12_takeSell_1 (fun _ H locs hp_1 hw => ?_)
  replace hw : WH G s (moW G mo (kpU U) ++ X) H locs := hw
  refine lv_aload_n C.1 C.2.1 dX12_takeSell_4 rfl (lv_at hl 0 rfl) ?_
  refine lv_aload_n C.1 C.2.1 dX12_takeSell_5 rfl (lv_at hl 0 rfl) ?_
  refine lv_iload_n C.1 C.2.1 dX12_takeSell_6 rfl (lv_at hl 1 rfl) ?_
  refine lv_iconst (v := 0) C.1 C.2.1 dX12_takeSell_7 (by decide) ?_
  refine lv_iload_n C.1 C.2.1 dX12_takeSell_8 rfl (lv_at hl 2 rfl) ?_
  refine lv_iload_n C.1 C.2.1 dX12_takeSell_9 rfl (lv_at hl 3 rfl) ?_
  refine lv_iconst (v := -1) C.1 C.2.1 dX12_takeSell_10 (by decide) ?_
  refine r_vi C hw (k12_doPlace hF (mo := mo) (U := (kpU U)) (X := X) (show okF ((kpU U).2 0) from by rw [kp_0]; exact hok) x false pr q (-1)) ml_X12_110 yf_X12_doPlace 0 rfl rfl (As := [.int x, .int 0, .int pr, .int q, .int (-1)]) rfl rfl ⟨Nat.le_of_ble_eq_true rfl, Nat.le_of_ble_eq_true rfl⟩ ⟨Nat.le_of_ble_eq_true rfl, Nat.le_of_ble_eq_true rfl⟩ hl.1 (Nat.le_of_ble_eq_true rfl) dX12_takeSell_11 (fun r_11 _ H locs hp_11 hw => ?_)
  obtain rfl : r_11 = (opM (kpU U) x false pr q (-1)).2 := hp_11
  replace hw : WH G s (moW G mo (opM (kpU U) x false pr q (-1)).1 ++ X) H locs := hw
  refine r_vi C hw (k12_ends hF (mo := mo) (U := (opM (kpU U) x false pr q (-1)).1) (X := X) (h := h) (by rw [opM_1, kp_1]; exact hh1) hh8 ((opM (kpU U) x false pr q (-1)).2)) ml_X12_107 yf_X12_ends 0 rfl rfl (As := [.int (opM (kpU U) x false pr q (-1)).2]) rfl rfl ⟨Nat.le_of_ble_eq_true rfl, Nat.le_of_ble_eq_true rfl⟩ ⟨Nat.le_of_ble_eq_true rfl, Nat.le_of_ble_eq_true rfl⟩ hl.1 (Nat.le_of_ble_eq_true rfl) dX12_takeSell_14 (fun r_14 _ H locs hp_14 hw => ?_)
  obtain rfl : r_14 = endA ((opM (kpU U) x false pr q (-1)).1) ((opM (kpU U) x false pr q (-1)).2) := hp_14
  replace hw : WH G s (moW G mo (endU ((opM (kpU U) x false pr q (-1)).1) h) ++ X) H locs := hw
  exact r_iret C hw rfl rfl () (rfl) rfl (Nat.le_of_ble_eq_true rfl) (Nat.le_of_ble_eq_true rfl) dX12_takeSell_17

set_option maxHeartbeats 4000000 in
set_option maxRecDepth 100000 in
theorem k12_cancel {l : Launch} {G : Gx} (hF : SF l G) {mo : Nat → Nat} {U : MV_} {X : va_W} (hok : okF (U.2 0)) {h : Nat} (hh1 : U.1 1 = nI h) (hh8 : h ≤ 8) (x : Int32) : MI l G yX12_cancel cX12_cancel 2 .int 3 0 0 [.ref (mo 0), .int x] (moW G mo U ++ X) (fun r _ => r = endA (caM (kpU U) x).1 (caM (kpU U) x).2) (fun _ : Unit => moW G mo (endU (caM (kpU U) x).1 h) ++ X) := by
  refine mt_of hF (by decide) (Nat.le_of_ble_eq_true rfl) ?_
  intro p e s m below meth c C hin ls hl H locs hw
  have hl : lv_has ls 2 [(0, .ref (mo 0)), (1, .int x)] := hl
  refine lv_aload_n C.1 C.2.1 dX12_cancel_0 rfl (lv_at hl 0 rfl) ?_
  refine r_vv C hw (k12_keep hF (mo := mo) (U := U) (X := X)) ml_X12_101 yf_X12_keep 0 rfl rfl (As := []) rfl rfl ⟨Nat.le_of_ble_eq_true rfl, Nat.le_of_ble_eq_true rfl⟩ ⟨Nat.le_of_ble_eq_true rfl, Nat.le_of_ble_eq_true rfl⟩ hl.1 (Nat.le_of_ble_eq_true rfl) dX12_cancel_1 (fun _ H locs hp_1 hw => ?_)
  replace hw : WH G s (moW G mo (kpU U) ++ X) H locs := hw
  refine lv_aload_n C.1 C.2.1 dX12_cancel_4 rfl (lv_at hl 0 rfl) ?_
  refine lv_aload_n C.1 C.2.1 dX12_cancel_5 rfl (lv_at hl 0 rfl) ?_
  refine lv_iload_n C.1 C.2.1 dX12_cancel_6 rfl (lv_at hl 1 rfl) ?_
  refine r_vi C hw (k12_doCancel hF (mo := mo) (U := (kpU U)) (X := X) (show okF ((kpU U).2 0) from by rw [kp_0]; exact hok) x) ml_X12_120 yf_X12_doCancel 0 rfl rfl (As := [.int x]) rfl rfl ⟨Nat.le_of_ble_eq_true rfl, Nat.le_of_ble_eq_true rfl⟩ ⟨Nat.le_of_ble_eq_true rfl, Nat.le_of_ble_eq_true rfl⟩ hl.1 (Nat.le_of_ble_eq_true rfl) dX12_cancel_7 (fun r_7 _ H locs hp_7 hw => ?_)
  obtain rfl : r_7 = (caM (kpU U) x).2 := hp_7
  replace hw : WH G s (moW G mo (caM (kpU U) x).1 ++ X) H locs := hw
  refine r_vi C hw (k12_ends hF (mo := mo) (U := (caM (kpU U) x).1) (X := X) (h := h) (by rw [caM_1, kp_1]; exact hh1) hh8 ((caM (kpU U) x).2)) ml_X12_107 yf_X12_ends 0 rfl rfl (As := [.int (caM (kpU U) x).2]) rfl rfl ⟨Nat.le_of_ble_eq_true rfl, Nat.le_of_ble_eq_true rfl⟩ ⟨Nat.le_of_ble_eq_true rfl, Nat.le_of_ble_eq_true rfl⟩ hl.1 (Nat.le_of_ble_eq_true rfl) dX12_cancel_10 (fun r_10 _ H locs hp_10 hw => ?_)
  obtain rfl : r_10 = endA ((caM (kpU U) x).1) ((caM (kpU U) x).2) := hp_10
  replace hw : WH G s (moW G mo (endU ((caM (kpU U) x).1) h) ++ X) H locs := hw
  exact r_iret C hw rfl rfl () (rfl) rfl (Nat.le_of_ble_eq_true rfl) (Nat.le_of_ble_eq_true rfl) dX12_cancel_13

set_option maxHeartbeats 4000000 in
set_option maxRecDepth 100000 in
theorem k12_pass {l : Launch} {G : Gx} (hF : SF l G) {mo : Nat → Nat} {U : MV_} {X : va_W} (hok : okF (U.2 0)) {h : Nat} (hh1 : U.1 1 = nI h) (hh8 : h ≤ 8) (x : Int32) : MI l G yX12_pass cX12_pass 2 .int 3 0 0 [.ref (mo 0), .int x] (moW G mo U ++ X) (fun r _ => r = endA (psM (kpU U) x).1 (psM (kpU U) x).2) (fun _ : Unit => moW G mo (endU (psM (kpU U) x).1 h) ++ X) := by
  refine mt_of hF (by decide) (Nat.le_of_ble_eq_true rfl) ?_
  intro p e s m below meth c C hin ls hl H locs hw
  have hl : lv_has ls 2 [(0, .ref (mo 0)), (1, .int x)] := hl
  refine lv_aload_n C.1 C.2.1 dX12_pass_0 rfl (lv_at hl 0 rfl) ?_
  refine r_vv C hw (k12_keep hF (mo := mo) (U := U) (X := X)) ml_X12_101 yf_X12_keep 0 rfl rfl (As := []) rfl rfl ⟨Nat.le_of_ble_eq_true rfl, Nat.le_of_ble_eq_true rfl⟩ ⟨Nat.le_of_ble_eq_true rfl, Nat.le_of_ble_eq_true rfl⟩ hl.1 (Nat.le_of_ble_eq_true rfl) dX12_pass_1 (fun _ H locs hp_1 hw => ?_)
  replace hw : WH G s (moW G mo (kpU U) ++ X) H locs := hw
  refine lv_aload_n C.1 C.2.1 dX12_pass_4 rfl (lv_at hl 0 rfl) ?_
  refine lv_aload_n C.1 C.2.1 dX12_pass_5 rfl (lv_at hl 0 rfl) ?_
  refine lv_iload_n C.1 C.2.1 dX12_pass_6 rfl (lv_at hl 1 rfl) ?_
  refine r_vi C hw (k12_doPass hF (mo := mo) (U := (kpU U)) (X := X) (show okF ((kpU U).2 0) from by rw [kp_0]; exact hok) x) ml_X12_123 yf_X12_doPass 0 rfl rfl (As := [.int x]) rfl rfl ⟨Nat.le_of_ble_eq_true rfl, Nat.le_of_ble_eq_true rfl⟩ ⟨Nat.le_of_ble_eq_true rfl, Nat.le_of_ble_eq_true rfl⟩ hl.1 (Nat.le_of_ble_eq_true rfl) dX12_pass_7 (fun r_7 _ H locs hp_7 hw => ?_)
  obtain rfl : r_7 = (psM (kpU U) x).2 := hp_7
  replace hw : WH G s (moW G mo (psM (kpU U) x).1 ++ X) H locs := hw
  refine r_vi C hw (k12_ends hF (mo := mo) (U := (psM (kpU U) x).1) (X := X) (h := h) (by rw [psM_1, kp_1]; exact hh1) hh8 ((psM (kpU U) x).2)) ml_X12_107 yf_X12_ends 0 rfl rfl (As := [.int (psM (kpU U) x).2]) rfl rfl ⟨Nat.le_of_ble_eq_true rfl, Nat.le_of_ble_eq_true rfl⟩ ⟨Nat.le_of_ble_eq_true rfl, Nat.le_of_ble_eq_true rfl⟩ hl.1 (Nat.le_of_ble_eq_true rfl) dX12_pass_10 (fun r_10 _ H locs hp_10 hw => ?_)
  obtain rfl : r_10 = endA ((psM (kpU U) x).1) ((psM (kpU U) x).2) := hp_10
  replace hw : WH G s (moW G mo (endU ((psM (kpU U) x).1) h) ++ X) H locs := hw
  exact r_iret C hw rfl rfl () (rfl) rfl (Nat.le_of_ble_eq_true rfl) (Nat.le_of_ble_eq_true rfl) dX12_pass_13

set_option maxHeartbeats 4000000 in
set_option maxRecDepth 100000 in
theorem k12_openPool {l : Launch} {G : Gx} (hF : SF l G) {mo : Nat → Nat} {U : MV_} {X : va_W} {h : Nat} (hh1 : U.1 1 = nI h) (hh8 : h ≤ 8) : MI l G yX12_openPool cX12_openPool 1 .int 2 0 0 [.ref (mo 0)] (moW G mo U ++ X) (fun r _ => r = endA (opnM (kpU U)).1 (opnM (kpU U)).2) (fun _ : Unit => moW G mo (endU (opnM (kpU U)).1 h) ++ X) := by
  refine mt_of hF (by decide) (Nat.le_of_ble_eq_true rfl) ?_
  intro p e s m below meth c C hin ls hl H locs hw
  have hl : lv_has ls 1 [(0, .ref (mo 0))] := hl
  refine lv_aload_n C.1 C.2.1 dX12_openPool_0 rfl (lv_at hl 0 rfl) ?_
  refine r_vv C hw (k12_keep hF (mo := mo) (U := U) (X := X)) ml_X12_101 yf_X12_keep 0 rfl rfl (As := []) rfl rfl ⟨Nat.le_of_ble_eq_true rfl, Nat.le_of_ble_eq_true rfl⟩ ⟨Nat.le_of_ble_eq_true rfl, Nat.le_of_ble_eq_true rfl⟩ hl.1 (Nat.le_of_ble_eq_true rfl) dX12_openPool_1 (fun _ H locs hp_1 hw => ?_)
  replace hw : WH G s (moW G mo (kpU U) ++ X) H locs := hw
  refine lv_aload_n C.1 C.2.1 dX12_openPool_4 rfl (lv_at hl 0 rfl) ?_
  refine lv_aload_n C.1 C.2.1 dX12_openPool_5 rfl (lv_at hl 0 rfl) ?_
  refine r_vi C hw (k12_doOpen hF (mo := mo) (U := (kpU U)) (X := X)  ) ml_X12_126 yf_X12_doOpen 0 rfl rfl (As := []) rfl rfl ⟨Nat.le_of_ble_eq_true rfl, Nat.le_of_ble_eq_true rfl⟩ ⟨Nat.le_of_ble_eq_true rfl, Nat.le_of_ble_eq_true rfl⟩ hl.1 (Nat.le_of_ble_eq_true rfl) dX12_openPool_6 (fun r_6 _ H locs hp_6 hw => ?_)
  obtain rfl : r_6 = (opnM (kpU U)).2 := hp_6
  replace hw : WH G s (moW G mo (opnM (kpU U)).1 ++ X) H locs := hw
  refine r_vi C hw (k12_ends hF (mo := mo) (U := (opnM (kpU U)).1) (X := X) (h := h) (by rw [opnM_1, kp_1]; exact hh1) hh8 ((opnM (kpU U)).2)) ml_X12_107 yf_X12_ends 0 rfl rfl (As := [.int (opnM (kpU U)).2]) rfl rfl ⟨Nat.le_of_ble_eq_true rfl, Nat.le_of_ble_eq_true rfl⟩ ⟨Nat.le_of_ble_eq_true rfl, Nat.le_of_ble_eq_true rfl⟩ hl.1 (Nat.le_of_ble_eq_true rfl) dX12_openPool_9 (fun r_9 _ H locs hp_9 hw => ?_)
  obtain rfl : r_9 = endA ((opnM (kpU U)).1) ((opnM (kpU U)).2) := hp_9
  replace hw : WH G s (moW G mo (endU ((opnM (kpU U)).1) h) ++ X) H locs := hw
  exact r_iret C hw rfl rfl () (rfl) rfl (Nat.le_of_ble_eq_true rfl) (Nat.le_of_ble_eq_true rfl) dX12_openPool_12

set_option maxHeartbeats 4000000 in
set_option maxRecDepth 100000 in
theorem k12_closePool {l : Launch} {G : Gx} (hF : SF l G) {mo : Nat → Nat} {U : MV_} {X : va_W} (hok : okF (U.2 0)) (hg : ¬ U.2 0 4 = 0 → ∃ g, clG (U.2 0) = some g) {h : Nat} (hh1 : U.1 1 = nI h) (hh8 : h ≤ 8) : MI l G yX12_closePool cX12_closePool 1 .int 5 0 0 [.ref (mo 0)] (moW G mo U ++ X) (fun r _ => r = endA (clM (kpU U)).1 (clM (kpU U)).2) (fun _ : Unit => moW G mo (endU (clM (kpU U)).1 h) ++ X) := by
  refine mt_of hF (by decide) (Nat.le_of_ble_eq_true rfl) ?_
  intro p e s m below meth c C hin ls hl H locs hw
  have hl : lv_has ls 1 [(0, .ref (mo 0))] := hl
  refine lv_aload_n C.1 C.2.1 dX12_closePool_0 rfl (lv_at hl 0 rfl) ?_
  refine r_vv C hw (k12_keep hF (mo := mo) (U := U) (X := X)) ml_X12_101 yf_X12_keep 0 rfl rfl (As := []) rfl rfl ⟨Nat.le_of_ble_eq_true rfl, Nat.le_of_ble_eq_true rfl⟩ ⟨Nat.le_of_ble_eq_true rfl, Nat.le_of_ble_eq_true rfl⟩ hl.1 (Nat.le_of_ble_eq_true rfl) dX12_closePool_1 (fun _ H locs hp_1 hw => ?_)
  replace hw : WH G s (moW G mo (kpU U) ++ X) H locs := hw
  refine lv_aload_n C.1 C.2.1 dX12_closePool_4 rfl (lv_at hl 0 rfl) ?_
  refine lv_aload_n C.1 C.2.1 dX12_closePool_5 rfl (lv_at hl 0 rfl) ?_
  refine r_vi C hw (k12_doClose hF (mo := mo) (U := (kpU U)) (X := X) (show okF ((kpU U).2 0) from by rw [kp_0]; exact hok) (by rw [kp_0]; exact hg) ) ml_X12_139 yf_X12_doClose 0 rfl rfl (As := []) rfl rfl ⟨Nat.le_of_ble_eq_true rfl, Nat.le_of_ble_eq_true rfl⟩ ⟨Nat.le_of_ble_eq_true rfl, Nat.le_of_ble_eq_true rfl⟩ hl.1 (Nat.le_of_ble_eq_true rfl) dX12_closePool_6 (fun r_6 _ H locs hp_6 hw => ?_)
  obtain rfl : r_6 = (clM (kpU U)).2 := hp_6
  replace hw : WH G s (moW G mo (clM (kpU U)).1 ++ X) H locs := hw
  refine r_vi C hw (k12_ends hF (mo := mo) (U := (clM (kpU U)).1) (X := X) (h := h) (by rw [clM_1, kp_1]; exact hh1) hh8 ((clM (kpU U)).2)) ml_X12_107 yf_X12_ends 0 rfl rfl (As := [.int (clM (kpU U)).2]) rfl rfl ⟨Nat.le_of_ble_eq_true rfl, Nat.le_of_ble_eq_true rfl⟩ ⟨Nat.le_of_ble_eq_true rfl, Nat.le_of_ble_eq_true rfl⟩ hl.1 (Nat.le_of_ble_eq_true rfl) dX12_closePool_9 (fun r_9 _ H locs hp_9 hw => ?_)
  obtain rfl : r_9 = endA ((clM (kpU U)).1) ((clM (kpU U)).2) := hp_9
  replace hw : WH G s (moW G mo (endU ((clM (kpU U)).1) h) ++ X) H locs := hw
  exact r_iret C hw rfl rfl () (rfl) rfl (Nat.le_of_ble_eq_true rfl) (Nat.le_of_ble_eq_true rfl) dX12_closePool_12

