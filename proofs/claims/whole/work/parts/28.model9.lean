/-! The model: what it tells -/
theorem lit_in {x : Int32} (h : inR x 0 (nI 20 - 1) = true) : True := trivial
theorem inR_n {x : Int32} {n : Nat} (hn : n ≤ 20) (h : inR x 0 (nI n - 1) = true) : ∃ i, x = nI i ∧ i < n := by
  by_cases hz : n = 0
  · subst hz
    unfold inR at h
    simp only [Bool.and_eq_true, Bool.not_eq_true', decide_eq_false_iff_not] at h
    obtain ⟨h1, h2⟩ := h
    rw [show (nI 0 - 1 : Int32) = -1 by decide] at h2
    rw [Int32.lt_iff_toInt_lt, show (0 : Int32).toInt = 0 by decide] at h1
    rw [Int32.lt_iff_toInt_lt, show (-1 : Int32).toInt = -1 by decide] at h2
    omega
  · rw [nI_p1 (by omega)] at h
    obtain ⟨i, h1, h2, h3⟩ := inR_t (lo := 0) (hi := n - 1) (by omega) h (by omega)
    exact ⟨i, h1, by omega⟩
def teB (f : Nat → Int32) (x : Int32) : Bool := (plF f x (nF f)).isSome
def teV (f : Nat → Int32) (x : Int32) (k : Nat) : Int32 := match plF f x (nF f) with
  | none => 0
  | some j => oF f j k
def beB (f : Nat → Int32) (b : Bool) : Bool := (mbF f b (nF f)).isSome
def beV (f : Nat → Int32) (b : Bool) (k : Nat) : Int32 := match mbF f b (nF f) with
  | none => 0
  | some j => oF f j k
def toR (f : Nat → Int32) (k t : Nat) : Int32 := fr (fun i a => a + sF f i k) t 0
def abC (f : Nat → Int32) (i o : Nat) : Bool := !decide (sF f o 0 - sF f i 0 ≤ 0) || (decide (sF f o 0 - sF f i 0 = 0) && decide (o < i))
def abR (f : Nat → Int32) (i t : Nat) : Int32 := fr (fun o a => a + (if abC f i o = true then 1 else 0)) t 0
def sbR (f : Nat → Int32) (x : Int32) (t k : Nat) : Int32 := fr (fun i a => if abR f i t = x then nI i else a) k 0
theorem oI_ge {o : Option Nat} (h : ∀ j, o = some j → j < 2 ^ 31) : (oI o < 0) ↔ o = none := by
  cases o with
  | none => exact ⟨fun _ => rfl, fun _ => by decide⟩
  | some j => exact ⟨fun q => absurd q (nI_pos (h j rfl)), fun q => by cases q⟩
theorem pl_lt {f : Nat → Int32} (h : okF f) {x : Int32} {j : Nat} (hj : plF f x (nF f) = some j) : j < nF f ∧ j < 21 ∧ j < 2 ^ 31 := by
  have := (lst_lt hj).1
  have := h.2.1
  omega
theorem mb_lt3 {f : Nat → Int32} (h : okF f) {b : Bool} {j : Nat} (hj : mbF f b (nF f) = some j) : j < nF f ∧ j < 21 ∧ j < 2 ^ 31 := by
  have := mb_lt hj
  have := h.2.1
  omega

set_option maxHeartbeats 4000000 in
set_option maxRecDepth 100000 in
theorem k12_stallCount {l : Launch} {G : Gx} (hF : SF l G) {mo : Nat → Nat} {U : MV_} {X : va_W} : MI l G yX12_stallCount cX12_stallCount 1 .int 0 0 0 [.ref (mo 0)] (moW G mo U ++ X) (fun r _ => r = (U.2 0) 0) (fun _ : Unit => moW G mo (mI U 2 0) ++ X) := by
  refine mt_of hF (by decide) (Nat.le_of_ble_eq_true rfl) ?_
  intro p e s m below meth c C hin ls hl H locs hw
  have hl : lv_has ls 1 [(0, .ref (mo 0))] := hl
  refine lv_aload_n C.1 C.2.1 dX12_stallCount_0 rfl (lv_at hl 0 rfl) ?_
  refine lv_iconst (v := 0) C.1 C.2.1 dX12_stallCount_1 (by decide) ?_
  refine r_put C hw 0 rfl rfl in_X12 tyX12 tyX12_ok nmX12 6 (by decide) fl_X12_39 rfl rfl rfl rfl (Nat.le_of_ble_eq_true rfl) (w' := moW G mo (mI U 2 0) ++ X) rfl dX12_stallCount_2 (fun H locs hw => ?_)
  refine lv_aload_n C.1 C.2.1 dX12_stallCount_5 rfl (lv_at hl 0 rfl) ?_
  refine r_get C hw 0 rfl rfl in_X12 0 (by decide) fl_X12_9 rfl (v := .ref (mo 1)) rfl dX12_stallCount_6 ?_
  refine lv_iconst (v := 0) C.1 C.2.1 dX12_stallCount_9 (by decide) ?_
  refine r_iald C hw 1 rfl (vp_in_nI (n := 0) (by omega) (by decide)) dX12_stallCount_10 ?_
  refine r_toe (show _ = (U.2 0) 0 from congrArg (U.2 0) (nI_clamp (n := 0) (by omega))) ?_
  exact r_iret C hw rfl rfl () (rfl) rfl (Nat.le_of_ble_eq_true rfl) (Nat.le_of_ble_eq_true rfl) dX12_stallCount_11

set_option maxHeartbeats 4000000 in
set_option maxRecDepth 100000 in
theorem k12_orderCount {l : Launch} {G : Gx} (hF : SF l G) {mo : Nat → Nat} {U : MV_} {X : va_W} : MI l G yX12_orderCount cX12_orderCount 1 .int 0 0 0 [.ref (mo 0)] (moW G mo U ++ X) (fun r _ => r = (U.2 0) 1) (fun _ : Unit => moW G mo (mI U 2 0) ++ X) := by
  refine mt_of hF (by decide) (Nat.le_of_ble_eq_true rfl) ?_
  intro p e s m below meth c C hin ls hl H locs hw
  have hl : lv_has ls 1 [(0, .ref (mo 0))] := hl
  refine lv_aload_n C.1 C.2.1 dX12_orderCount_0 rfl (lv_at hl 0 rfl) ?_
  refine lv_iconst (v := 0) C.1 C.2.1 dX12_orderCount_1 (by decide) ?_
  refine r_put C hw 0 rfl rfl in_X12 tyX12 tyX12_ok nmX12 6 (by decide) fl_X12_39 rfl rfl rfl rfl (Nat.le_of_ble_eq_true rfl) (w' := moW G mo (mI U 2 0) ++ X) rfl dX12_orderCount_2 (fun H locs hw => ?_)
  refine lv_aload_n C.1 C.2.1 dX12_orderCount_5 rfl (lv_at hl 0 rfl) ?_
  refine r_get C hw 0 rfl rfl in_X12 0 (by decide) fl_X12_9 rfl (v := .ref (mo 1)) rfl dX12_orderCount_6 ?_
  refine lv_iconst (v := 1) C.1 C.2.1 dX12_orderCount_9 (by decide) ?_
  refine r_iald C hw 1 rfl (vp_in_nI (n := 1) (by omega) (by decide)) dX12_orderCount_10 ?_
  refine r_toe (show _ = (U.2 0) 1 from congrArg (U.2 0) (nI_clamp (n := 1) (by omega))) ?_
  exact r_iret C hw rfl rfl () (rfl) rfl (Nat.le_of_ble_eq_true rfl) (Nat.le_of_ble_eq_true rfl) dX12_orderCount_11

set_option maxHeartbeats 4000000 in
set_option maxRecDepth 100000 in
theorem k12_tradeCount {l : Launch} {G : Gx} (hF : SF l G) {mo : Nat → Nat} {U : MV_} {X : va_W} : MI l G yX12_tradeCount cX12_tradeCount 1 .int 0 0 0 [.ref (mo 0)] (moW G mo U ++ X) (fun r _ => r = (U.2 0) 6) (fun _ : Unit => moW G mo (mI U 2 0) ++ X) := by
  refine mt_of hF (by decide) (Nat.le_of_ble_eq_true rfl) ?_
  intro p e s m below meth c C hin ls hl H locs hw
  have hl : lv_has ls 1 [(0, .ref (mo 0))] := hl
  refine lv_aload_n C.1 C.2.1 dX12_tradeCount_0 rfl (lv_at hl 0 rfl) ?_
  refine lv_iconst (v := 0) C.1 C.2.1 dX12_tradeCount_1 (by decide) ?_
  refine r_put C hw 0 rfl rfl in_X12 tyX12 tyX12_ok nmX12 6 (by decide) fl_X12_39 rfl rfl rfl rfl (Nat.le_of_ble_eq_true rfl) (w' := moW G mo (mI U 2 0) ++ X) rfl dX12_tradeCount_2 (fun H locs hw => ?_)
  refine lv_aload_n C.1 C.2.1 dX12_tradeCount_5 rfl (lv_at hl 0 rfl) ?_
  refine r_get C hw 0 rfl rfl in_X12 0 (by decide) fl_X12_9 rfl (v := .ref (mo 1)) rfl dX12_tradeCount_6 ?_
  refine lv_bipush (v := 6) C.1 C.2.1 dX12_tradeCount_9 (by decide) ?_
  refine r_iald C hw 1 rfl (vp_in_nI (n := 6) (by omega) (by decide)) dX12_tradeCount_11 ?_
  refine r_toe (show _ = (U.2 0) 6 from congrArg (U.2 0) (nI_clamp (n := 6) (by omega))) ?_
  exact r_iret C hw rfl rfl () (rfl) rfl (Nat.le_of_ble_eq_true rfl) (Nat.le_of_ble_eq_true rfl) dX12_tradeCount_12

set_option maxHeartbeats 4000000 in
set_option maxRecDepth 100000 in
theorem k12_tradedQuantity {l : Launch} {G : Gx} (hF : SF l G) {mo : Nat → Nat} {U : MV_} {X : va_W} : MI l G yX12_tradedQuantity cX12_tradedQuantity 1 .int 0 0 0 [.ref (mo 0)] (moW G mo U ++ X) (fun r _ => r = (U.2 0) 7) (fun _ : Unit => moW G mo (mI U 2 0) ++ X) := by
  refine mt_of hF (by decide) (Nat.le_of_ble_eq_true rfl) ?_
  intro p e s m below meth c C hin ls hl H locs hw
  have hl : lv_has ls 1 [(0, .ref (mo 0))] := hl
  refine lv_aload_n C.1 C.2.1 dX12_tradedQuantity_0 rfl (lv_at hl 0 rfl) ?_
  refine lv_iconst (v := 0) C.1 C.2.1 dX12_tradedQuantity_1 (by decide) ?_
  refine r_put C hw 0 rfl rfl in_X12 tyX12 tyX12_ok nmX12 6 (by decide) fl_X12_39 rfl rfl rfl rfl (Nat.le_of_ble_eq_true rfl) (w' := moW G mo (mI U 2 0) ++ X) rfl dX12_tradedQuantity_2 (fun H locs hw => ?_)
  refine lv_aload_n C.1 C.2.1 dX12_tradedQuantity_5 rfl (lv_at hl 0 rfl) ?_
  refine r_get C hw 0 rfl rfl in_X12 0 (by decide) fl_X12_9 rfl (v := .ref (mo 1)) rfl dX12_tradedQuantity_6 ?_
  refine lv_bipush (v := 7) C.1 C.2.1 dX12_tradedQuantity_9 (by decide) ?_
  refine r_iald C hw 1 rfl (vp_in_nI (n := 7) (by omega) (by decide)) dX12_tradedQuantity_11 ?_
  refine r_toe (show _ = (U.2 0) 7 from congrArg (U.2 0) (nI_clamp (n := 7) (by omega))) ?_
  exact r_iret C hw rfl rfl () (rfl) rfl (Nat.le_of_ble_eq_true rfl) (Nat.le_of_ble_eq_true rfl) dX12_tradedQuantity_12

set_option maxHeartbeats 4000000 in
set_option maxRecDepth 100000 in
theorem k12_time {l : Launch} {G : Gx} (hF : SF l G) {mo : Nat → Nat} {U : MV_} {X : va_W} : MI l G yX12_time cX12_time 1 .int 0 0 0 [.ref (mo 0)] (moW G mo U ++ X) (fun r _ => r = (U.2 0) 3) (fun _ : Unit => moW G mo (mI U 2 0) ++ X) := by
  refine mt_of hF (by decide) (Nat.le_of_ble_eq_true rfl) ?_
  intro p e s m below meth c C hin ls hl H locs hw
  have hl : lv_has ls 1 [(0, .ref (mo 0))] := hl
  refine lv_aload_n C.1 C.2.1 dX12_time_0 rfl (lv_at hl 0 rfl) ?_
  refine lv_iconst (v := 0) C.1 C.2.1 dX12_time_1 (by decide) ?_
  refine r_put C hw 0 rfl rfl in_X12 tyX12 tyX12_ok nmX12 6 (by decide) fl_X12_39 rfl rfl rfl rfl (Nat.le_of_ble_eq_true rfl) (w' := moW G mo (mI U 2 0) ++ X) rfl dX12_time_2 (fun H locs hw => ?_)
  refine lv_aload_n C.1 C.2.1 dX12_time_5 rfl (lv_at hl 0 rfl) ?_
  refine r_get C hw 0 rfl rfl in_X12 0 (by decide) fl_X12_9 rfl (v := .ref (mo 1)) rfl dX12_time_6 ?_
  refine lv_iconst (v := 3) C.1 C.2.1 dX12_time_9 (by decide) ?_
  refine r_iald C hw 1 rfl (vp_in_nI (n := 3) (by omega) (by decide)) dX12_time_10 ?_
  refine r_toe (show _ = (U.2 0) 3 from congrArg (U.2 0) (nI_clamp (n := 3) (by omega))) ?_
  exact r_iret C hw rfl rfl () (rfl) rfl (Nat.le_of_ble_eq_true rfl) (Nat.le_of_ble_eq_true rfl) dX12_time_11

set_option maxHeartbeats 4000000 in
set_option maxRecDepth 100000 in
theorem k12_isConsistent {l : Launch} {G : Gx} (hF : SF l G) {mo : Nat → Nat} {U : MV_} {X : va_W} : MI l G yX12_isConsistent cX12_isConsistent 1 .boolean 0 0 0 [.ref (mo 0)] (moW G mo U ++ X) (fun r _ => r = 1) (fun _ : Unit => moW G mo (mI U 2 0) ++ X) := by
  refine mt_of hF (by decide) (Nat.le_of_ble_eq_true rfl) ?_
  intro p e s m below meth c C hin ls hl H locs hw
  have hl : lv_has ls 1 [(0, .ref (mo 0))] := hl
  refine lv_aload_n C.1 C.2.1 dX12_isConsistent_0 rfl (lv_at hl 0 rfl) ?_
  refine lv_iconst (v := 0) C.1 C.2.1 dX12_isConsistent_1 (by decide) ?_
  refine r_put C hw 0 rfl rfl in_X12 tyX12 tyX12_ok nmX12 6 (by decide) fl_X12_39 rfl rfl rfl rfl (Nat.le_of_ble_eq_true rfl) (w' := moW G mo (mI U 2 0) ++ X) rfl dX12_isConsistent_2 (fun H locs hw => ?_)
  refine lv_iconst (v := 1) C.1 C.2.1 dX12_isConsistent_5 (by decide) ?_
  exact r_iret C hw rfl rfl () (rfl) rfl (Nat.le_of_ble_eq_true rfl) (Nat.le_of_ble_eq_true rfl) dX12_isConsistent_6

set_option maxHeartbeats 4000000 in
set_option maxRecDepth 100000 in
theorem k12_isPoolOpen {l : Launch} {G : Gx} (hF : SF l G) {mo : Nat → Nat} {U : MV_} {X : va_W} : MI l G yX12_isPoolOpen cX12_isPoolOpen 1 .boolean 0 0 0 [.ref (mo 0)] (moW G mo U ++ X) (fun r _ => r = bI (decide ((U.2 0) 4 = 1))) (fun _ : Unit => moW G mo (mI U 2 0) ++ X) := by
  refine mt_of hF (by decide) (Nat.le_of_ble_eq_true rfl) ?_
  intro p e s m below meth c C hin ls hl H locs hw
  have hl : lv_has ls 1 [(0, .ref (mo 0))] := hl
  refine lv_aload_n C.1 C.2.1 dX12_isPoolOpen_0 rfl (lv_at hl 0 rfl) ?_
  refine lv_iconst (v := 0) C.1 C.2.1 dX12_isPoolOpen_1 (by decide) ?_
  refine r_put C hw 0 rfl rfl in_X12 tyX12 tyX12_ok nmX12 6 (by decide) fl_X12_39 rfl rfl rfl rfl (Nat.le_of_ble_eq_true rfl) (w' := moW G mo (mI U 2 0) ++ X) rfl dX12_isPoolOpen_2 (fun H locs hw => ?_)
  refine lv_aload_n C.1 C.2.1 dX12_isPoolOpen_5 rfl (lv_at hl 0 rfl) ?_
  refine r_get C hw 0 rfl rfl in_X12 0 (by decide) fl_X12_9 rfl (v := .ref (mo 1)) rfl dX12_isPoolOpen_6 ?_
  refine lv_iconst (v := 4) C.1 C.2.1 dX12_isPoolOpen_9 (by decide) ?_
  refine r_iald C hw 1 rfl (vp_in_nI (n := 4) (by omega) (by decide)) dX12_isPoolOpen_10 ?_
  refine r_toe (show _ = (U.2 0) 4 from congrArg (U.2 0) (nI_clamp (n := 4) (by omega))) ?_
  refine lv_iconst (v := 1) C.1 C.2.1 dX12_isPoolOpen_11 (by decide) ?_
  refine lv_icmp_ne (tgt := 19) C.1 C.2.1 dX12_isPoolOpen_12 (by decide) (fun c_12 => ?_) (fun c_12 => ?_)
  · refine lv_iconst (v := 0) C.1 C.2.1 dX12_isPoolOpen_19 (by decide) ?_
    exact r_iret C hw rfl rfl () (by simp [bI, c_12]) rfl (Nat.le_of_ble_eq_true rfl) (Nat.le_of_ble_eq_true rfl) dX12_isPoolOpen_20
  · refine lv_iconst (v := 1) C.1 C.2.1 dX12_isPoolOpen_15 (by decide) ?_
    refine lv_goto (tgt := 20) C.1 C.2.1 dX12_isPoolOpen_16 (by decide) ?_
    exact r_iret C hw rfl rfl () (by simp [bI, c_12]) rfl (Nat.le_of_ble_eq_true rfl) (Nat.le_of_ble_eq_true rfl) dX12_isPoolOpen_20

set_option maxHeartbeats 4000000 in
set_option maxRecDepth 100000 in
theorem k12_turnover {l : Launch} {G : Gx} (hF : SF l G) {mo : Nat → Nat} {U : MV_} {X : va_W} : ML l G yX12_turnover cX12_turnover 1 0 0 0 [.ref (mo 0)] (moW G mo U ++ X) (fun r _ => r = ((U.2 0) 8).toInt64) (fun _ : Unit => moW G mo (mI U 2 0) ++ X) := by
  refine mt_of hF (by decide) (Nat.le_of_ble_eq_true rfl) ?_
  intro p e s m below meth c C hin ls hl H locs hw
  have hl : lv_has ls 1 [(0, .ref (mo 0))] := hl
  refine lv_aload_n C.1 C.2.1 dX12_turnover_0 rfl (lv_at hl 0 rfl) ?_
  refine lv_iconst (v := 0) C.1 C.2.1 dX12_turnover_1 (by decide) ?_
  refine r_put C hw 0 rfl rfl in_X12 tyX12 tyX12_ok nmX12 6 (by decide) fl_X12_39 rfl rfl rfl rfl (Nat.le_of_ble_eq_true rfl) (w' := moW G mo (mI U 2 0) ++ X) rfl dX12_turnover_2 (fun H locs hw => ?_)
  refine lv_aload_n C.1 C.2.1 dX12_turnover_5 rfl (lv_at hl 0 rfl) ?_
  refine r_get C hw 0 rfl rfl in_X12 0 (by decide) fl_X12_9 rfl (v := .ref (mo 1)) rfl dX12_turnover_6 ?_
  refine lv_bipush (v := 8) C.1 C.2.1 dX12_turnover_9 (by decide) ?_
  refine r_iald C hw 1 rfl (vp_in_nI (n := 8) (by omega) (by decide)) dX12_turnover_11 ?_
  refine r_toe (show _ = (U.2 0) 8 from congrArg (U.2 0) (nI_clamp (n := 8) (by omega))) ?_
  refine lv_i2l (v := ((U.2 0) 8).toInt64) C.1 C.2.1 dX12_turnover_12 rfl ?_
  exact r_lret C hw rfl () (rfl) rfl (Nat.le_of_ble_eq_true rfl) (Nat.le_of_ble_eq_true rfl) dX12_turnover_13

set_option maxHeartbeats 4000000 in
set_option maxRecDepth 100000 in
theorem k12_moneyOf {l : Launch} {G : Gx} (hF : SF l G) {mo : Nat → Nat} {U : MV_} {X : va_W} (hok : okF (U.2 0)) (x : Int32) : MI l G yX12_moneyOf cX12_moneyOf 2 .int 3 0 0 [.ref (mo 0), .int x] (moW G mo U ++ X) (fun r _ => r = (if isF (U.2 0) x = true then sF (U.2 0) x.toNatClampNeg 0 else 0)) (fun _ : Unit => moW G mo (mI U 2 (bI (!isF (U.2 0) x))) ++ X) := by
  refine mt_of hF (by decide) (Nat.le_of_ble_eq_true rfl) ?_
  intro p e s m below meth c C hin ls hl H locs hw
  have hl : lv_has ls 2 [(0, .ref (mo 0)), (1, .int x)] := hl
  refine lv_aload_n C.1 C.2.1 dX12_moneyOf_0 rfl (lv_at hl 0 rfl) ?_
  refine lv_aload_n C.1 C.2.1 dX12_moneyOf_1 rfl (lv_at hl 0 rfl) ?_
  refine lv_iload_n C.1 C.2.1 dX12_moneyOf_2 rfl (lv_at hl 1 rfl) ?_
  refine r_vi C hw (k12_isStall hF (mo := mo) (U := U) (X := X) x) ml_X12_87 yf_X12_isStall 0 rfl rfl (As := [.int x]) rfl rfl ⟨Nat.le_of_ble_eq_true rfl, Nat.le_of_ble_eq_true rfl⟩ ⟨Nat.le_of_ble_eq_true rfl, Nat.le_of_ble_eq_true rfl⟩ hl.1 (Nat.le_of_ble_eq_true rfl) dX12_moneyOf_3 (fun r_3 _ H locs hp_3 hw => ?_)
  obtain rfl : r_3 = bI (isF (U.2 0) x) := hp_3
  replace hw : WH G s (moW G mo U ++ X) H locs := hw
  refine r_vi C hw (k12_isThere hF (mo := mo) (U := U) (X := X) (isF (U.2 0) x)) ml_X12_142 yf_X12_isThere 0 rfl rfl (As := [.int (bI (isF (U.2 0) x))]) rfl rfl ⟨Nat.le_of_ble_eq_true rfl, Nat.le_of_ble_eq_true rfl⟩ ⟨Nat.le_of_ble_eq_true rfl, Nat.le_of_ble_eq_true rfl⟩ hl.1 (Nat.le_of_ble_eq_true rfl) dX12_moneyOf_6 (fun r_6 _ H locs hp_6 hw => ?_)
  obtain rfl : r_6 = bI (isF (U.2 0) x) := hp_6
  replace hw : WH G s (moW G mo (mI U 2 (bI (!(isF (U.2 0) x)))) ++ X) H locs := hw
  refine lv_if_eq (tgt := 21) C.1 C.2.1 dX12_moneyOf_9 (by decide) (fun c_9 => ?_) (fun c_9 => ?_)
  · have b_9 := bI_eq0.mp c_9
    refine lv_iconst (v := 0) C.1 C.2.1 dX12_moneyOf_21 (by decide) ?_
    exact r_iret C hw rfl rfl () (by rw [if_neg (by rw [b_9]; decide)]) rfl (Nat.le_of_ble_eq_true rfl) (Nat.le_of_ble_eq_true rfl) dX12_moneyOf_22
  · have b_9 := bI_ne0.mp c_9
    obtain ⟨i, rfl, hi⟩ := isF_t hok b_9
    have ht6 := hok.2.2.2.1
    have hn20 := hok.2.1
    replace hl : lv_has ls 2 [(0, .ref (mo 0)), (1, .int (nI i))] := hl
    replace hw : WH G s (moW G mo (mI U 2 (bI (!isF (U.2 0) (nI i)))) ++ X) H locs := hw
    refine lv_aload_n C.1 C.2.1 dX12_moneyOf_12 rfl (lv_at hl 0 rfl) ?_
    refine lv_iload_n C.1 C.2.1 dX12_moneyOf_13 rfl (lv_at hl 1 rfl) ?_
    refine lv_iconst (v := 0) C.1 C.2.1 dX12_moneyOf_14 (by decide) ?_
    refine r_vi C hw (k12_stall hF (mo := mo) (U := (mI U 2 (bI (!isF (U.2 0) (nI i))))) (X := X) (i := i) (k := 0) (by omega) (by omega)) ml_X12_59 yf_X12_stall 0 rfl rfl (As := [.int (nI i), .int 0]) rfl rfl ⟨Nat.le_of_ble_eq_true rfl, Nat.le_of_ble_eq_true rfl⟩ ⟨Nat.le_of_ble_eq_true rfl, Nat.le_of_ble_eq_true rfl⟩ hl.1 (Nat.le_of_ble_eq_true rfl) dX12_moneyOf_15 (fun r_15 _ H locs hp_15 hw => ?_)
    obtain rfl : r_15 = sF (U.2 0) i 0 := hp_15
    replace hw : WH G s (moW G mo (mI U 2 (bI (!isF (U.2 0) (nI i)))) ++ X) H locs := hw
    refine lv_goto (tgt := 22) C.1 C.2.1 dX12_moneyOf_18 (by decide) ?_
    exact r_iret C hw rfl rfl () (by rw [if_pos b_9, nI_clamp (by omega)]) rfl (Nat.le_of_ble_eq_true rfl) (Nat.le_of_ble_eq_true rfl) dX12_moneyOf_22

set_option maxHeartbeats 4000000 in
set_option maxRecDepth 100000 in
theorem k12_dropsOf {l : Launch} {G : Gx} (hF : SF l G) {mo : Nat → Nat} {U : MV_} {X : va_W} (hok : okF (U.2 0)) (x : Int32) : MI l G yX12_dropsOf cX12_dropsOf 2 .int 3 0 0 [.ref (mo 0), .int x] (moW G mo U ++ X) (fun r _ => r = (if isF (U.2 0) x = true then sF (U.2 0) x.toNatClampNeg 1 else 0)) (fun _ : Unit => moW G mo (mI U 2 (bI (!isF (U.2 0) x))) ++ X) := by
  refine mt_of hF (by decide) (Nat.le_of_ble_eq_true rfl) ?_
  intro p e s m below meth c C hin ls hl H locs hw
  have hl : lv_has ls 2 [(0, .ref (mo 0)), (1, .int x)] := hl
  refine lv_aload_n C.1 C.2.1 dX12_dropsOf_0 rfl (lv_at hl 0 rfl) ?_
  refine lv_aload_n C.1 C.2.1 dX12_dropsOf_1 rfl (lv_at hl 0 rfl) ?_
  refine lv_iload_n C.1 C.2.1 dX12_dropsOf_2 rfl (lv_at hl 1 rfl) ?_
  refine r_vi C hw (k12_isStall hF (mo := mo) (U := U) (X := X) x) ml_X12_87 yf_X12_isStall 0 rfl rfl (As := [.int x]) rfl rfl ⟨Nat.le_of_ble_eq_true rfl, Nat.le_of_ble_eq_true rfl⟩ ⟨Nat.le_of_ble_eq_true rfl, Nat.le_of_ble_eq_true rfl⟩ hl.1 (Nat.le_of_ble_eq_true rfl) dX12_dropsOf_3 (fun r_3 _ H locs hp_3 hw => ?_)
  obtain rfl : r_3 = bI (isF (U.2 0) x) := hp_3
  replace hw : WH G s (moW G mo U ++ X) H locs := hw
  refine r_vi C hw (k12_isThere hF (mo := mo) (U := U) (X := X) (isF (U.2 0) x)) ml_X12_142 yf_X12_isThere 0 rfl rfl (As := [.int (bI (isF (U.2 0) x))]) rfl rfl ⟨Nat.le_of_ble_eq_true rfl, Nat.le_of_ble_eq_true rfl⟩ ⟨Nat.le_of_ble_eq_true rfl, Nat.le_of_ble_eq_true rfl⟩ hl.1 (Nat.le_of_ble_eq_true rfl) dX12_dropsOf_6 (fun r_6 _ H locs hp_6 hw => ?_)
  obtain rfl : r_6 = bI (isF (U.2 0) x) := hp_6
  replace hw : WH G s (moW G mo (mI U 2 (bI (!(isF (U.2 0) x)))) ++ X) H locs := hw
  refine lv_if_eq (tgt := 21) C.1 C.2.1 dX12_dropsOf_9 (by decide) (fun c_9 => ?_) (fun c_9 => ?_)
  · have b_9 := bI_eq0.mp c_9
    refine lv_iconst (v := 0) C.1 C.2.1 dX12_dropsOf_21 (by decide) ?_
    exact r_iret C hw rfl rfl () (by rw [if_neg (by rw [b_9]; decide)]) rfl (Nat.le_of_ble_eq_true rfl) (Nat.le_of_ble_eq_true rfl) dX12_dropsOf_22
  · have b_9 := bI_ne0.mp c_9
    obtain ⟨i, rfl, hi⟩ := isF_t hok b_9
    have ht6 := hok.2.2.2.1
    have hn20 := hok.2.1
    replace hl : lv_has ls 2 [(0, .ref (mo 0)), (1, .int (nI i))] := hl
    replace hw : WH G s (moW G mo (mI U 2 (bI (!isF (U.2 0) (nI i)))) ++ X) H locs := hw
    refine lv_aload_n C.1 C.2.1 dX12_dropsOf_12 rfl (lv_at hl 0 rfl) ?_
    refine lv_iload_n C.1 C.2.1 dX12_dropsOf_13 rfl (lv_at hl 1 rfl) ?_
    refine lv_iconst (v := 1) C.1 C.2.1 dX12_dropsOf_14 (by decide) ?_
    refine r_vi C hw (k12_stall hF (mo := mo) (U := (mI U 2 (bI (!isF (U.2 0) (nI i))))) (X := X) (i := i) (k := 1) (by omega) (by omega)) ml_X12_59 yf_X12_stall 0 rfl rfl (As := [.int (nI i), .int 1]) rfl rfl ⟨Nat.le_of_ble_eq_true rfl, Nat.le_of_ble_eq_true rfl⟩ ⟨Nat.le_of_ble_eq_true rfl, Nat.le_of_ble_eq_true rfl⟩ hl.1 (Nat.le_of_ble_eq_true rfl) dX12_dropsOf_15 (fun r_15 _ H locs hp_15 hw => ?_)
    obtain rfl : r_15 = sF (U.2 0) i 1 := hp_15
    replace hw : WH G s (moW G mo (mI U 2 (bI (!isF (U.2 0) (nI i)))) ++ X) H locs := hw
    refine lv_goto (tgt := 22) C.1 C.2.1 dX12_dropsOf_18 (by decide) ?_
    exact r_iret C hw rfl rfl () (by rw [if_pos b_9, nI_clamp (by omega)]) rfl (Nat.le_of_ble_eq_true rfl) (Nat.le_of_ble_eq_true rfl) dX12_dropsOf_22

set_option maxHeartbeats 4000000 in
set_option maxRecDepth 100000 in
theorem k12_freeMoneyOf {l : Launch} {G : Gx} (hF : SF l G) {mo : Nat → Nat} {U : MV_} {X : va_W} (hok : okF (U.2 0)) (x : Int32) : MI l G yX12_freeMoneyOf cX12_freeMoneyOf 2 .int 3 0 0 [.ref (mo 0), .int x] (moW G mo U ++ X) (fun r _ => r = (if isF (U.2 0) x = true then fqR (U.2 0) x.toNatClampNeg true (nF (U.2 0)) else 0)) (fun _ : Unit => moW G mo (mI U 2 (bI (!isF (U.2 0) x))) ++ X) := by
  refine mt_of hF (by decide) (Nat.le_of_ble_eq_true rfl) ?_
  intro p e s m below meth c C hin ls hl H locs hw
  have hl : lv_has ls 2 [(0, .ref (mo 0)), (1, .int x)] := hl
  refine lv_aload_n C.1 C.2.1 dX12_freeMoneyOf_0 rfl (lv_at hl 0 rfl) ?_
  refine lv_aload_n C.1 C.2.1 dX12_freeMoneyOf_1 rfl (lv_at hl 0 rfl) ?_
  refine lv_iload_n C.1 C.2.1 dX12_freeMoneyOf_2 rfl (lv_at hl 1 rfl) ?_
  refine r_vi C hw (k12_isStall hF (mo := mo) (U := U) (X := X) x) ml_X12_87 yf_X12_isStall 0 rfl rfl (As := [.int x]) rfl rfl ⟨Nat.le_of_ble_eq_true rfl, Nat.le_of_ble_eq_true rfl⟩ ⟨Nat.le_of_ble_eq_true rfl, Nat.le_of_ble_eq_true rfl⟩ hl.1 (Nat.le_of_ble_eq_true rfl) dX12_freeMoneyOf_3 (fun r_3 _ H locs hp_3 hw => ?_)
  obtain rfl : r_3 = bI (isF (U.2 0) x) := hp_3
  replace hw : WH G s (moW G mo U ++ X) H locs := hw
  refine r_vi C hw (k12_isThere hF (mo := mo) (U := U) (X := X) (isF (U.2 0) x)) ml_X12_142 yf_X12_isThere 0 rfl rfl (As := [.int (bI (isF (U.2 0) x))]) rfl rfl ⟨Nat.le_of_ble_eq_true rfl, Nat.le_of_ble_eq_true rfl⟩ ⟨Nat.le_of_ble_eq_true rfl, Nat.le_of_ble_eq_true rfl⟩ hl.1 (Nat.le_of_ble_eq_true rfl) dX12_freeMoneyOf_6 (fun r_6 _ H locs hp_6 hw => ?_)
  obtain rfl : r_6 = bI (isF (U.2 0) x) := hp_6
  replace hw : WH G s (moW G mo (mI U 2 (bI (!(isF (U.2 0) x)))) ++ X) H locs := hw
  refine lv_if_eq (tgt := 21) C.1 C.2.1 dX12_freeMoneyOf_9 (by decide) (fun c_9 => ?_) (fun c_9 => ?_)
  · have b_9 := bI_eq0.mp c_9
    refine lv_iconst (v := 0) C.1 C.2.1 dX12_freeMoneyOf_21 (by decide) ?_
    exact r_iret C hw rfl rfl () (by rw [if_neg (by rw [b_9]; decide)]) rfl (Nat.le_of_ble_eq_true rfl) (Nat.le_of_ble_eq_true rfl) dX12_freeMoneyOf_22
  · have b_9 := bI_ne0.mp c_9
    obtain ⟨i, rfl, hi⟩ := isF_t hok b_9
    have ht6 := hok.2.2.2.1
    have hn20 := hok.2.1
    replace hl : lv_has ls 2 [(0, .ref (mo 0)), (1, .int (nI i))] := hl
    replace hw : WH G s (moW G mo (mI U 2 (bI (!isF (U.2 0) (nI i)))) ++ X) H locs := hw
    refine lv_aload_n C.1 C.2.1 dX12_freeMoneyOf_12 rfl (lv_at hl 0 rfl) ?_
    refine lv_iload_n C.1 C.2.1 dX12_freeMoneyOf_13 rfl (lv_at hl 1 rfl) ?_
    refine lv_iconst (v := 0) C.1 C.2.1 dX12_freeMoneyOf_14 (by decide) ?_
    refine r_vi C hw (k12_free_0 hF (mo := mo) (U := (mI U 2 (bI (!isF (U.2 0) (nI i))))) (X := X) (n := (nF (U.2 0))) hok.1 hok.2.1 (i := i) (by omega)) ml_X12_94 yf_X12_free 0 rfl rfl (As := [.int (nI i), .int 0]) rfl rfl ⟨Nat.le_of_ble_eq_true rfl, Nat.le_of_ble_eq_true rfl⟩ ⟨Nat.le_of_ble_eq_true rfl, Nat.le_of_ble_eq_true rfl⟩ hl.1 (Nat.le_of_ble_eq_true rfl) dX12_freeMoneyOf_15 (fun r_15 _ H locs hp_15 hw => ?_)
    obtain rfl : r_15 = fqR (U.2 0) i true (nF (U.2 0)) := hp_15
    replace hw : WH G s (moW G mo (mI U 2 (bI (!isF (U.2 0) (nI i)))) ++ X) H locs := hw
    refine lv_goto (tgt := 22) C.1 C.2.1 dX12_freeMoneyOf_18 (by decide) ?_
    exact r_iret C hw rfl rfl () (by rw [if_pos b_9, nI_clamp (by omega)]) rfl (Nat.le_of_ble_eq_true rfl) (Nat.le_of_ble_eq_true rfl) dX12_freeMoneyOf_22

set_option maxHeartbeats 4000000 in
set_option maxRecDepth 100000 in
theorem k12_freeDropsOf {l : Launch} {G : Gx} (hF : SF l G) {mo : Nat → Nat} {U : MV_} {X : va_W} (hok : okF (U.2 0)) (x : Int32) : MI l G yX12_freeDropsOf cX12_freeDropsOf 2 .int 3 0 0 [.ref (mo 0), .int x] (moW G mo U ++ X) (fun r _ => r = (if isF (U.2 0) x = true then fqR (U.2 0) x.toNatClampNeg false (nF (U.2 0)) else 0)) (fun _ : Unit => moW G mo (mI U 2 (bI (!isF (U.2 0) x))) ++ X) := by
  refine mt_of hF (by decide) (Nat.le_of_ble_eq_true rfl) ?_
  intro p e s m below meth c C hin ls hl H locs hw
  have hl : lv_has ls 2 [(0, .ref (mo 0)), (1, .int x)] := hl
  refine lv_aload_n C.1 C.2.1 dX12_freeDropsOf_0 rfl (lv_at hl 0 rfl) ?_
  refine lv_aload_n C.1 C.2.1 dX12_freeDropsOf_1 rfl (lv_at hl 0 rfl) ?_
  refine lv_iload_n C.1 C.2.1 dX12_freeDropsOf_2 rfl (lv_at hl 1 rfl) ?_
  refine r_vi C hw (k12_isStall hF (mo := mo) (U := U) (X := X) x) ml_X12_87 yf_X12_isStall 0 rfl rfl (As := [.int x]) rfl rfl ⟨Nat.le_of_ble_eq_true rfl, Nat.le_of_ble_eq_true rfl⟩ ⟨Nat.le_of_ble_eq_true rfl, Nat.le_of_ble_eq_true rfl⟩ hl.1 (Nat.le_of_ble_eq_true rfl) dX12_freeDropsOf_3 (fun r_3 _ H locs hp_3 hw => ?_)
  obtain rfl : r_3 = bI (isF (U.2 0) x) := hp_3
  replace hw : WH G s (moW G mo U ++ X) H locs := hw
  refine r_vi C hw (k12_isThere hF (mo := mo) (U := U) (X := X) (isF (U.2 0) x)) ml_X12_142 yf_X12_isThere 0 rfl rfl (As := [.int (bI (isF (U.2 0) x))]) rfl rfl ⟨Nat.le_of_ble_eq_true rfl, Nat.le_of_ble_eq_true rfl⟩ ⟨Nat.le_of_ble_eq_true rfl, Nat.le_of_ble_eq_true rfl⟩ hl.1 (Nat.le_of_ble_eq_true rfl) dX12_freeDropsOf_6 (fun r_6 _ H locs hp_6 hw => ?_)
  obtain rfl : r_6 = bI (isF (U.2 0) x) := hp_6
  replace hw : WH G s (moW G mo (mI U 2 (bI (!(isF (U.2 0) x)))) ++ X) H locs := hw
  refine lv_if_eq (tgt := 21) C.1 C.2.1 dX12_freeDropsOf_9 (by decide) (fun c_9 => ?_) (fun c_9 => ?_)
  · have b_9 := bI_eq0.mp c_9
    refine lv_iconst (v := 0) C.1 C.2.1 dX12_freeDropsOf_21 (by decide) ?_
    exact r_iret C hw rfl rfl () (by rw [if_neg (by rw [b_9]; decide)]) rfl (Nat.le_of_ble_eq_true rfl) (Nat.le_of_ble_eq_true rfl) dX12_freeDropsOf_22
  · have b_9 := bI_ne0.mp c_9
    obtain ⟨i, rfl, hi⟩ := isF_t hok b_9
    have ht6 := hok.2.2.2.1
    have hn20 := hok.2.1
    replace hl : lv_has ls 2 [(0, .ref (mo 0)), (1, .int (nI i))] := hl
    replace hw : WH G s (moW G mo (mI U 2 (bI (!isF (U.2 0) (nI i)))) ++ X) H locs := hw
    refine lv_aload_n C.1 C.2.1 dX12_freeDropsOf_12 rfl (lv_at hl 0 rfl) ?_
    refine lv_iload_n C.1 C.2.1 dX12_freeDropsOf_13 rfl (lv_at hl 1 rfl) ?_
    refine lv_iconst (v := 1) C.1 C.2.1 dX12_freeDropsOf_14 (by decide) ?_
    refine r_vi C hw (k12_free_1 hF (mo := mo) (U := (mI U 2 (bI (!isF (U.2 0) (nI i))))) (X := X) (n := (nF (U.2 0))) hok.1 hok.2.1 (i := i) (by omega)) ml_X12_94 yf_X12_free 0 rfl rfl (As := [.int (nI i), .int 1]) rfl rfl ⟨Nat.le_of_ble_eq_true rfl, Nat.le_of_ble_eq_true rfl⟩ ⟨Nat.le_of_ble_eq_true rfl, Nat.le_of_ble_eq_true rfl⟩ hl.1 (Nat.le_of_ble_eq_true rfl) dX12_freeDropsOf_15 (fun r_15 _ H locs hp_15 hw => ?_)
    obtain rfl : r_15 = fqR (U.2 0) i false (nF (U.2 0)) := hp_15
    replace hw : WH G s (moW G mo (mI U 2 (bI (!isF (U.2 0) (nI i)))) ++ X) H locs := hw
    refine lv_goto (tgt := 22) C.1 C.2.1 dX12_freeDropsOf_18 (by decide) ?_
    exact r_iret C hw rfl rfl () (by rw [if_pos b_9, nI_clamp (by omega)]) rfl (Nat.le_of_ble_eq_true rfl) (Nat.le_of_ble_eq_true rfl) dX12_freeDropsOf_22

set_option maxHeartbeats 4000000 in
set_option maxRecDepth 100000 in
theorem k12_total {l : Launch} {G : Gx} (hF : SF l G) {mo : Nat → Nat} {U : MV_} {X : va_W} (hok : okF (U.2 0)) {k : Nat} (hk : k < 2) : MI l G yX12_total cX12_total 4 .int 3 0 0 [.ref (mo 0), .int (nI k)] (moW G mo U ++ X) (fun r _ => r = toR (U.2 0) k (tF (U.2 0))) (fun _ : Unit => moW G mo (mI U 2 0) ++ X) := by
  refine mt_of hF (by decide) (Nat.le_of_ble_eq_true rfl) ?_
  intro p e s m below meth c C hin ls hl H locs hw
  have hl : lv_has ls 4 [(0, .ref (mo 0)), (1, .int (nI k))] := hl
  refine lv_aload_n C.1 C.2.1 dX12_total_0 rfl (lv_at hl 0 rfl) ?_
  refine lv_iconst (v := 0) C.1 C.2.1 dX12_total_1 (by decide) ?_
  refine r_put C hw 0 rfl rfl in_X12 tyX12 tyX12_ok nmX12 6 (by decide) fl_X12_39 rfl rfl rfl rfl (Nat.le_of_ble_eq_true rfl) (w' := moW G mo (mI U 2 0) ++ X) rfl dX12_total_2 (fun H locs hw => ?_)
  refine lv_iconst (v := 0) C.1 C.2.1 dX12_total_5 (by decide) ?_
  refine lv_istore_n (lv' := [(2, .int 0), (0, .ref (mo 0)), (1, .int (nI k))]) C.1 C.2.1 dX12_total_6 rfl hl (by decide) rfl (fun ls hl => ?_)
  refine lv_iconst (v := 0) C.1 C.2.1 dX12_total_7 (by decide) ?_
  refine lv_istore_n (lv' := [(3, .int 0), (2, .int 0), (0, .ref (mo 0)), (1, .int (nI k))]) C.1 C.2.1 dX12_total_8 rfl hl (by decide) rfl (fun ls hl => ?_)
  refine w_loop (σ := Nat × Int32) G (fun u ⟨i, y⟩ => i ≤ tF (U.2 0) ∧ tF (U.2 0) < i + u ∧ y = toR (U.2 0) k i) (fun ⟨i, y⟩ => moW G mo (mI U 2 0) ++ X) (fun ⟨i, y⟩ => 0) (fun ⟨i, y⟩ => 0) (fun ⟨i, y⟩ => [(0, .ref (mo 0)), (1, .int (nI k)), (2, .int y), (3, .int (nI i))]) 4 ?_ ?_ (tF (U.2 0) + 1) (0, 0) (⟨Nat.zero_le _, by omega, rfl⟩) hw (lv_sub hl [2, 3, 1, 0] rfl)
  · rintro n9 ⟨i, y⟩ ⟨h1, h2, h3⟩ ih9 H locs hw ls hl
    replace hw : WH G s (moW G mo (mI U 2 0) ++ X) H locs := hw
    replace hl : lv_has ls 4 [(0, .ref (mo 0)), (1, .int (nI k)), (2, .int y), (3, .int (nI i))] := hl
    have ht6 := hok.2.2.2.1
    refine lv_iload_n C.1 C.2.1 dX12_total_9 rfl (lv_at hl 3 rfl) ?_
    refine lv_aload_n C.1 C.2.1 dX12_total_10 rfl (lv_at hl 0 rfl) ?_
    refine r_get C hw 0 rfl rfl in_X12 0 (by decide) fl_X12_9 rfl (v := .ref (mo 1)) rfl dX12_total_11 ?_
    refine lv_iconst (v := 0) C.1 C.2.1 dX12_total_14 (by decide) ?_
    refine r_iald C hw 1 rfl (vp_in_nI (n := 0) (by omega) (by decide)) dX12_total_15 ?_
    refine r_toe (show _ = ((mI U 2 0).2 0) 0 from congrArg ((mI U 2 0).2 0) (nI_clamp (n := 0) (by omega))) ?_
    refine r_toe (show _ = nI (tF (U.2 0)) from hok.2.2.1) ?_
    refine lv_icmp_ge (tgt := 34) C.1 C.2.1 dX12_total_16 (by decide) (fun c_16 => ?_) (fun c_16 => ?_)
    · obtain rfl : i = tF (U.2 0) := le_T h1 (by omega) c_16
      refine lv_iload_n C.1 C.2.1 dX12_total_34 rfl (lv_at hl 2 rfl) ?_
      exact r_iret C hw rfl rfl () (by rw [h3]) rfl (Nat.le_of_ble_eq_true rfl) (Nat.le_of_ble_eq_true rfl) dX12_total_35
    · have hi := le_F h1 (by omega) c_16
      refine lv_iload_n C.1 C.2.1 dX12_total_19 rfl (lv_at hl 2 rfl) ?_
      refine lv_aload_n C.1 C.2.1 dX12_total_20 rfl (lv_at hl 0 rfl) ?_
      refine lv_iload_n C.1 C.2.1 dX12_total_21 rfl (lv_at hl 3 rfl) ?_
      refine lv_iload_n C.1 C.2.1 dX12_total_22 rfl (lv_at hl 1 rfl) ?_
      refine r_vi C hw (k12_stall hF (mo := mo) (U := (mI U 2 0)) (X := X) (i := i) (k := k) (by omega) (by omega)) ml_X12_59 yf_X12_stall 0 rfl rfl (As := [.int (nI i), .int (nI k)]) rfl rfl ⟨Nat.le_of_ble_eq_true rfl, Nat.le_of_ble_eq_true rfl⟩ ⟨Nat.le_of_ble_eq_true rfl, Nat.le_of_ble_eq_true rfl⟩ hl.1 (Nat.le_of_ble_eq_true rfl) dX12_total_23 (fun r_23 _ H locs hp_23 hw => ?_)
      obtain rfl : r_23 = sF ((mI U 2 0).2 0) i k := hp_23
      replace hw : WH G s (moW G mo (mI U 2 0) ++ X) H locs := hw
      refine lv_iadd C.1 C.2.1 dX12_total_26 ?_
      refine lv_istore_n (lv' := [(2, .int (y + (sF ((mI U 2 0).2 0) i k))), (0, .ref (mo 0)), (1, .int (nI k)), (3, .int (nI i))]) C.1 C.2.1 dX12_total_27 rfl hl (by decide) rfl (fun ls hl => ?_)
      refine lv_iinc (v := nI (i + 1)) (lv' := [(3, .int (nI (i + 1))), (2, .int (y + (sF ((mI U 2 0).2 0) i k))), (0, .ref (mo 0)), (1, .int (nI k))]) C.1 C.2.1 dX12_total_28 hl (k := 3) rfl (inc_nI i) (by decide) rfl (fun ls hl => ?_)
      refine lv_goto (tgt := 9) C.1 C.2.1 dX12_total_31 (by decide) ?_
      exact ih9 (i + 1, y + sF (U.2 0) i k) (⟨by omega, by omega, by rw [h3]; rfl⟩) _ _ hw _ (lv_sub hl [2, 3, 1, 0] rfl)
  · rintro ⟨i, y⟩ ⟨h1, h2, h3⟩; omega

set_option maxHeartbeats 4000000 in
set_option maxRecDepth 100000 in
theorem k12_totalMoney {l : Launch} {G : Gx} (hF : SF l G) {mo : Nat → Nat} {U : MV_} {X : va_W} (hok : okF (U.2 0)) : MI l G yX12_totalMoney cX12_totalMoney 1 .int 4 0 0 [.ref (mo 0)] (moW G mo U ++ X) (fun r _ => r = toR (U.2 0) 0 (tF (U.2 0))) (fun _ : Unit => moW G mo (mI U 2 0) ++ X) := by
  refine mt_of hF (by decide) (Nat.le_of_ble_eq_true rfl) ?_
  intro p e s m below meth c C hin ls hl H locs hw
  have hl : lv_has ls 1 [(0, .ref (mo 0))] := hl
  refine lv_aload_n C.1 C.2.1 dX12_totalMoney_0 rfl (lv_at hl 0 rfl) ?_
  refine lv_iconst (v := 0) C.1 C.2.1 dX12_totalMoney_1 (by decide) ?_
  refine r_vi C hw (k12_total hF (mo := mo) (U := U) (X := X) hok (k := 0) (by decide)) ml_X12_146 yf_X12_total 0 rfl rfl (As := [.int 0]) rfl rfl ⟨Nat.le_of_ble_eq_true rfl, Nat.le_of_ble_eq_true rfl⟩ ⟨Nat.le_of_ble_eq_true rfl, Nat.le_of_ble_eq_true rfl⟩ hl.1 (Nat.le_of_ble_eq_true rfl) dX12_totalMoney_2 (fun r_2 _ H locs hp_2 hw => ?_)
  obtain rfl : r_2 = toR (U.2 0) 0 (tF (U.2 0)) := hp_2
  replace hw : WH G s (moW G mo (mI U 2 0) ++ X) H locs := hw
  exact r_iret C hw rfl rfl () (rfl) rfl (Nat.le_of_ble_eq_true rfl) (Nat.le_of_ble_eq_true rfl) dX12_totalMoney_5

set_option maxHeartbeats 4000000 in
set_option maxRecDepth 100000 in
theorem k12_totalDrops {l : Launch} {G : Gx} (hF : SF l G) {mo : Nat → Nat} {U : MV_} {X : va_W} (hok : okF (U.2 0)) : MI l G yX12_totalDrops cX12_totalDrops 1 .int 4 0 0 [.ref (mo 0)] (moW G mo U ++ X) (fun r _ => r = toR (U.2 0) 1 (tF (U.2 0))) (fun _ : Unit => moW G mo (mI U 2 0) ++ X) := by
  refine mt_of hF (by decide) (Nat.le_of_ble_eq_true rfl) ?_
  intro p e s m below meth c C hin ls hl H locs hw
  have hl : lv_has ls 1 [(0, .ref (mo 0))] := hl
  refine lv_aload_n C.1 C.2.1 dX12_totalDrops_0 rfl (lv_at hl 0 rfl) ?_
  refine lv_iconst (v := 1) C.1 C.2.1 dX12_totalDrops_1 (by decide) ?_
  refine r_vi C hw (k12_total hF (mo := mo) (U := U) (X := X) hok (k := 1) (by decide)) ml_X12_146 yf_X12_total 0 rfl rfl (As := [.int 1]) rfl rfl ⟨Nat.le_of_ble_eq_true rfl, Nat.le_of_ble_eq_true rfl⟩ ⟨Nat.le_of_ble_eq_true rfl, Nat.le_of_ble_eq_true rfl⟩ hl.1 (Nat.le_of_ble_eq_true rfl) dX12_totalDrops_2 (fun r_2 _ H locs hp_2 hw => ?_)
  obtain rfl : r_2 = toR (U.2 0) 1 (tF (U.2 0)) := hp_2
  replace hw : WH G s (moW G mo (mI U 2 0) ++ X) H locs := hw
  exact r_iret C hw rfl rfl () (rfl) rfl (Nat.le_of_ble_eq_true rfl) (Nat.le_of_ble_eq_true rfl) dX12_totalDrops_5

set_option maxHeartbeats 4000000 in
set_option maxRecDepth 100000 in
theorem k12_orderAt {l : Launch} {G : Gx} (hF : SF l G) {mo : Nat → Nat} {U : MV_} {X : va_W} (hok : okF (U.2 0)) (x : Int32) : MI l G yX12_orderAt cX12_orderAt 2 .int 3 0 0 [.ref (mo 0), .int x] (moW G mo U ++ X) (fun r _ => r = (if inR x 0 (nI (nF (U.2 0)) - 1) = true then oF (U.2 0) x.toNatClampNeg 0 else 0)) (fun _ : Unit => moW G mo (mI U 2 (bI (!inR x 0 (nI (nF (U.2 0)) - 1)))) ++ X) := by
  refine mt_of hF (by decide) (Nat.le_of_ble_eq_true rfl) ?_
  intro p e s m below meth c C hin ls hl H locs hw
  have hl : lv_has ls 2 [(0, .ref (mo 0)), (1, .int x)] := hl
  refine lv_aload_n C.1 C.2.1 dX12_orderAt_0 rfl (lv_at hl 0 rfl) ?_
  refine lv_iload_n C.1 C.2.1 dX12_orderAt_1 rfl (lv_at hl 1 rfl) ?_
  refine lv_iconst (v := 0) C.1 C.2.1 dX12_orderAt_2 (by decide) ?_
  refine lv_aload_n C.1 C.2.1 dX12_orderAt_3 rfl (lv_at hl 0 rfl) ?_
  refine r_get C hw 0 rfl rfl in_X12 0 (by decide) fl_X12_9 rfl (v := .ref (mo 1)) rfl dX12_orderAt_4 ?_
  refine lv_iconst (v := 1) C.1 C.2.1 dX12_orderAt_7 (by decide) ?_
  refine r_iald C hw 1 rfl (vp_in_nI (n := 1) (by omega) (by decide)) dX12_orderAt_8 ?_
  refine r_toe (show _ = (U.2 0) 1 from congrArg (U.2 0) (nI_clamp (n := 1) (by omega))) ?_
  refine r_toe (show _ = nI (nF (U.2 0)) from hok.1) ?_
  refine lv_iconst (v := 1) C.1 C.2.1 dX12_orderAt_9 (by decide) ?_
  refine lv_isub C.1 C.2.1 dX12_orderAt_10 ?_
  refine r_si C hw (k12_in hF (X := moW G mo U ++ X) x 0 ((nI (nF (U.2 0))) - 1)) ml_X12_51 yf_X12_in (As := [.int x, .int 0, .int ((nI (nF (U.2 0))) - 1)]) rfl rfl ⟨Nat.le_of_ble_eq_true rfl, Nat.le_of_ble_eq_true rfl⟩ ⟨Nat.le_of_ble_eq_true rfl, Nat.le_of_ble_eq_true rfl⟩ hl.1 (Nat.le_of_ble_eq_true rfl) dX12_orderAt_11 (fun r_11 _ H locs hp_11 hw => ?_)
  obtain rfl : r_11 = bI (inR x 0 ((nI (nF (U.2 0))) - 1)) := hp_11
  replace hw : WH G s (moW G mo U ++ X) H locs := hw
  refine r_vi C hw (k12_isThere hF (mo := mo) (U := U) (X := X) (inR x 0 ((nI (nF (U.2 0))) - 1))) ml_X12_142 yf_X12_isThere 0 rfl rfl (As := [.int (bI (inR x 0 ((nI (nF (U.2 0))) - 1)))]) rfl rfl ⟨Nat.le_of_ble_eq_true rfl, Nat.le_of_ble_eq_true rfl⟩ ⟨Nat.le_of_ble_eq_true rfl, Nat.le_of_ble_eq_true rfl⟩ hl.1 (Nat.le_of_ble_eq_true rfl) dX12_orderAt_14 (fun r_14 _ H locs hp_14 hw => ?_)
  obtain rfl : r_14 = bI (inR x 0 ((nI (nF (U.2 0))) - 1)) := hp_14
  replace hw : WH G s (moW G mo (mI U 2 (bI (!(inR x 0 ((nI (nF (U.2 0))) - 1))))) ++ X) H locs := hw
  refine lv_if_eq (tgt := 29) C.1 C.2.1 dX12_orderAt_17 (by decide) (fun c_17 => ?_) (fun c_17 => ?_)
  · have b_17 := bI_eq0.mp c_17
    refine lv_iconst (v := 0) C.1 C.2.1 dX12_orderAt_29 (by decide) ?_
    exact r_iret C hw rfl rfl () (by rw [if_neg (by rw [b_17]; decide)]) rfl (Nat.le_of_ble_eq_true rfl) (Nat.le_of_ble_eq_true rfl) dX12_orderAt_30
  · have b_17 := bI_ne0.mp c_17
    obtain ⟨i, rfl, hi⟩ := inR_n hok.2.1 b_17
    have hn20 := hok.2.1
    replace hl : lv_has ls 2 [(0, .ref (mo 0)), (1, .int (nI i))] := hl
    replace hw : WH G s (moW G mo (mI U 2 (bI (!inR (nI i) 0 (nI (nF (U.2 0)) - 1)))) ++ X) H locs := hw
    refine lv_aload_n C.1 C.2.1 dX12_orderAt_20 rfl (lv_at hl 0 rfl) ?_
    refine lv_iload_n C.1 C.2.1 dX12_orderAt_21 rfl (lv_at hl 1 rfl) ?_
    refine lv_iconst (v := 0) C.1 C.2.1 dX12_orderAt_22 (by decide) ?_
    refine r_vi C hw (k12_of hF (mo := mo) (U := (mI U 2 (bI (!inR (nI i) 0 (nI (nF (U.2 0)) - 1))))) (X := X) (i := i) (k := 0) (by omega) (by omega)) ml_X12_55 yf_X12_of 0 rfl rfl (As := [.int (nI i), .int 0]) rfl rfl ⟨Nat.le_of_ble_eq_true rfl, Nat.le_of_ble_eq_true rfl⟩ ⟨Nat.le_of_ble_eq_true rfl, Nat.le_of_ble_eq_true rfl⟩ hl.1 (Nat.le_of_ble_eq_true rfl) dX12_orderAt_23 (fun r_23 _ H locs hp_23 hw => ?_)
    obtain rfl : r_23 = oF (U.2 0) i 0 := hp_23
    replace hw : WH G s (moW G mo (mI U 2 (bI (!inR (nI i) 0 (nI (nF (U.2 0)) - 1)))) ++ X) H locs := hw
    refine lv_goto (tgt := 30) C.1 C.2.1 dX12_orderAt_26 (by decide) ?_
    exact r_iret C hw rfl rfl () (by rw [if_pos b_17, nI_clamp (by omega)]) rfl (Nat.le_of_ble_eq_true rfl) (Nat.le_of_ble_eq_true rfl) dX12_orderAt_30

