/-! The model: one row of numbers. mI, mR: its whole numbers (isSaved, pastMany, thrown, lineMany, length, at, isWrong, errorAt, failedAt, commandMany) and rows (s, before, saved, past, line, text, commands) -/
abbrev MV_ : Type := (Nat → Int32) × (Nat → Nat → Int32)
def mI (U : MV_) (k : Nat) (x : Int32) : MV_ := (va_up U.1 k x, U.2)
def mR (U : MV_) (k : Nat) (f : Nat → Int32) : MV_ := (U.1, va_up U.2 k f)
def moW (G : Gx) (mo : Nat → Nat) (U : MV_) : va_W :=
  [(mo 0, .inr (13, [.ref (mo 1), .ref (mo 2), .ref (mo 3), .int (U.1 0), .ref (mo 4), .int (U.1 1), .int (U.1 2), .ref (mo 5), .int (U.1 3), .ref (mo 6), .int (U.1 4), .int (U.1 5), .int (U.1 6), .int (U.1 7), .int (U.1 8), .ref (mo 7), .int (U.1 9)])),
   (mo 1, .inl (G.2.2.1 0, 147, .inl (U.2 0))), (mo 2, .inl (G.2.2.1 0, 147, .inl (U.2 1))), (mo 3, .inl (G.2.2.1 0, 147, .inl (U.2 2))), (mo 4, .inl (G.2.2.1 0, 1176, .inl (U.2 3))),
   (mo 5, .inl (G.2.2.1 2, 40, .inl (U.2 4))), (mo 6, .inl (G.2.2.1 2, 60, .inl (U.2 5))), (mo 7, .inl (G.2.2.1 0, 240, .inl (U.2 6)))]
def oF (f : Nat → Int32) (p k : Nat) : Int32 := f (21 + 6 * p + k)
def sF (f : Nat → Int32) (i k : Nat) : Int32 := f (9 + 2 * i + k)
def byF (f : Nat → Int32) (p : Nat) : Bool := decide (oF f p 2 = 1)
def isF (f : Nat → Int32) (x : Int32) : Bool := inR x 0 (f 0 - 1)

set_option maxHeartbeats 4000000 in
set_option maxRecDepth 100000 in
theorem k12_in {l : Launch} {G : Gx} (hF : SF l G) {X : va_W} (x lo hi : Int32) : MI l G yX12_in cX12_in 3 .boolean 0 0 0 [.int x, .int lo, .int hi] X (fun r (_ : Unit) => r = bI (inR x lo hi)) (fun _ => X) := by
  refine mt_of hF (by decide) (Nat.le_of_ble_eq_true rfl) ?_
  intro p e s m below meth c C hin ls hl H locs hw
  have hl : lv_has ls 3 [(0, .int x), (1, .int lo), (2, .int hi)] := hl
  refine lv_iload_n C.1 C.2.1 dX12_in_0 rfl (lv_at hl 0 rfl) ?_
  refine lv_iload_n C.1 C.2.1 dX12_in_1 rfl (lv_at hl 1 rfl) ?_
  refine lv_icmp_lt (tgt := 14) C.1 C.2.1 dX12_in_2 (by decide) (fun c_2 => ?_) (fun c_2 => ?_)
  · refine lv_iconst (v := 0) C.1 C.2.1 dX12_in_14 (by decide) ?_
    exact r_iret C hw rfl rfl () (by simp [inR, bI, c_2]) rfl (Nat.le_of_ble_eq_true rfl) (Nat.le_of_ble_eq_true rfl) dX12_in_15
  · refine lv_iload_n C.1 C.2.1 dX12_in_5 rfl (lv_at hl 0 rfl) ?_
    refine lv_iload_n C.1 C.2.1 dX12_in_6 rfl (lv_at hl 2 rfl) ?_
    refine lv_icmp_gt (tgt := 14) C.1 C.2.1 dX12_in_7 (by decide) (fun c_7 => ?_) (fun c_7 => ?_)
    · refine lv_iconst (v := 0) C.1 C.2.1 dX12_in_14 (by decide) ?_
      exact r_iret C hw rfl rfl () (by simp [inR, bI, c_2, c_7]) rfl (Nat.le_of_ble_eq_true rfl) (Nat.le_of_ble_eq_true rfl) dX12_in_15
    · refine lv_iconst (v := 1) C.1 C.2.1 dX12_in_10 (by decide) ?_
      refine lv_goto (tgt := 15) C.1 C.2.1 dX12_in_11 (by decide) ?_
      exact r_iret C hw rfl rfl () (by simp [inR, bI, c_2, c_7]) rfl (Nat.le_of_ble_eq_true rfl) (Nat.le_of_ble_eq_true rfl) dX12_in_15

set_option maxHeartbeats 4000000 in
set_option maxRecDepth 100000 in
theorem k12_thrown {l : Launch} {G : Gx} (hF : SF l G) {mo : Nat → Nat} {U : MV_} {X : va_W} : MI l G yX12_thrown cX12_thrown 1 .int 0 0 0 [.ref (mo 0)] (moW G mo U ++ X) (fun r _ => r = U.1 2) (fun _ : Unit => moW G mo U ++ X) := by
  refine mt_of hF (by decide) (Nat.le_of_ble_eq_true rfl) ?_
  intro p e s m below meth c C hin ls hl H locs hw
  have hl : lv_has ls 1 [(0, .ref (mo 0))] := hl
  refine lv_aload_n C.1 C.2.1 dX12_thrown_0 rfl (lv_at hl 0 rfl) ?_
  refine r_get C hw 0 rfl rfl in_X12 6 (by decide) fl_X12_39 rfl (v := .int (U.1 2)) rfl dX12_thrown_1 ?_
  exact r_iret C hw rfl rfl () (rfl) rfl (Nat.le_of_ble_eq_true rfl) (Nat.le_of_ble_eq_true rfl) dX12_thrown_4

set_option maxHeartbeats 4000000 in
set_option maxRecDepth 100000 in
theorem k12_fails {l : Launch} {G : Gx} (hF : SF l G) {mo : Nat → Nat} {U : MV_} {X : va_W} (x : Int32) : MI l G yX12_fails cX12_fails 2 .int 0 0 0 [.ref (mo 0), .int x] (moW G mo U ++ X) (fun r _ => r = 0) (fun _ : Unit => moW G mo (mI U 2 x) ++ X) := by
  refine mt_of hF (by decide) (Nat.le_of_ble_eq_true rfl) ?_
  intro p e s m below meth c C hin ls hl H locs hw
  have hl : lv_has ls 2 [(0, .ref (mo 0)), (1, .int x)] := hl
  refine lv_aload_n C.1 C.2.1 dX12_fails_0 rfl (lv_at hl 0 rfl) ?_
  refine lv_iload_n C.1 C.2.1 dX12_fails_1 rfl (lv_at hl 1 rfl) ?_
  refine r_put C hw 0 rfl rfl in_X12 tyX12 tyX12_ok nmX12 6 (by decide) fl_X12_39 rfl rfl rfl rfl (Nat.le_of_ble_eq_true rfl) (w' := moW G mo (mI U 2 x) ++ X) rfl dX12_fails_2 (fun H locs hw => ?_)
  refine lv_iconst (v := 0) C.1 C.2.1 dX12_fails_5 (by decide) ?_
  exact r_iret C hw rfl rfl () (rfl) rfl (Nat.le_of_ble_eq_true rfl) (Nat.le_of_ble_eq_true rfl) dX12_fails_6

set_option maxHeartbeats 4000000 in
set_option maxRecDepth 100000 in
theorem k12_isThere {l : Launch} {G : Gx} (hF : SF l G) {mo : Nat → Nat} {U : MV_} {X : va_W} (b : Bool) : MI l G yX12_isThere cX12_isThere 2 .boolean 0 0 0 [.ref (mo 0), .int (bI b)] (moW G mo U ++ X) (fun r _ => r = bI b) (fun _ : Unit => moW G mo (mI U 2 (bI (!b))) ++ X) := by
  refine mt_of hF (by decide) (Nat.le_of_ble_eq_true rfl) ?_
  intro p e s m below meth c C hin ls hl H locs hw
  have hl : lv_has ls 2 [(0, .ref (mo 0)), (1, .int (bI b))] := hl
  refine lv_aload_n C.1 C.2.1 dX12_isThere_0 rfl (lv_at hl 0 rfl) ?_
  refine lv_iload_n C.1 C.2.1 dX12_isThere_1 rfl (lv_at hl 1 rfl) ?_
  refine lv_if_eq (tgt := 9) C.1 C.2.1 dX12_isThere_2 (by decide) (fun c_2 => ?_) (fun c_2 => ?_)
  · obtain rfl : b = false := bI_eq0.mp c_2
    refine lv_iconst (v := 1) C.1 C.2.1 dX12_isThere_9 (by decide) ?_
    refine r_put C hw 0 rfl rfl in_X12 tyX12 tyX12_ok nmX12 6 (by decide) fl_X12_39 rfl rfl rfl rfl (Nat.le_of_ble_eq_true rfl) (w' := moW G mo (mI U 2 1) ++ X) rfl dX12_isThere_10 (fun H locs hw => ?_)
    refine lv_iload_n C.1 C.2.1 dX12_isThere_13 rfl (lv_at hl 1 rfl) ?_
    exact r_iret C hw rfl (bI_nar _) () (rfl) rfl (Nat.le_of_ble_eq_true rfl) (Nat.le_of_ble_eq_true rfl) dX12_isThere_14
  · obtain rfl : b = true := bI_ne0.mp c_2
    refine lv_iconst (v := 0) C.1 C.2.1 dX12_isThere_5 (by decide) ?_
    refine lv_goto (tgt := 10) C.1 C.2.1 dX12_isThere_6 (by decide) ?_
    refine r_put C hw 0 rfl rfl in_X12 tyX12 tyX12_ok nmX12 6 (by decide) fl_X12_39 rfl rfl rfl rfl (Nat.le_of_ble_eq_true rfl) (w' := moW G mo (mI U 2 0) ++ X) rfl dX12_isThere_10 (fun H locs hw => ?_)
    refine lv_iload_n C.1 C.2.1 dX12_isThere_13 rfl (lv_at hl 1 rfl) ?_
    exact r_iret C hw rfl (bI_nar _) () (rfl) rfl (Nat.le_of_ble_eq_true rfl) (Nat.le_of_ble_eq_true rfl) dX12_isThere_14

set_option maxHeartbeats 4000000 in
set_option maxRecDepth 100000 in
theorem k12_isStall {l : Launch} {G : Gx} (hF : SF l G) {mo : Nat → Nat} {U : MV_} {X : va_W} (x : Int32) : MI l G yX12_isStall cX12_isStall 2 .boolean 1 0 0 [.ref (mo 0), .int x] (moW G mo U ++ X) (fun r _ => r = bI (isF (U.2 0) x)) (fun _ : Unit => moW G mo U ++ X) := by
  refine mt_of hF (by decide) (Nat.le_of_ble_eq_true rfl) ?_
  intro p e s m below meth c C hin ls hl H locs hw
  have hl : lv_has ls 2 [(0, .ref (mo 0)), (1, .int x)] := hl
  refine lv_iload_n C.1 C.2.1 dX12_isStall_0 rfl (lv_at hl 1 rfl) ?_
  refine lv_iconst (v := 0) C.1 C.2.1 dX12_isStall_1 (by decide) ?_
  refine lv_aload_n C.1 C.2.1 dX12_isStall_2 rfl (lv_at hl 0 rfl) ?_
  refine r_get C hw 0 rfl rfl in_X12 0 (by decide) fl_X12_9 rfl (v := .ref (mo 1)) rfl dX12_isStall_3 ?_
  refine lv_iconst (v := 0) C.1 C.2.1 dX12_isStall_6 (by decide) ?_
  refine r_iald C hw 1 rfl (vp_in_nI (n := 0) (by omega) (by decide)) dX12_isStall_7 ?_
  refine r_toe (show _ = (U.2 0) 0 from congrArg (U.2 0) (nI_clamp (n := 0) (by omega))) ?_
  refine lv_iconst (v := 1) C.1 C.2.1 dX12_isStall_8 (by decide) ?_
  refine lv_isub C.1 C.2.1 dX12_isStall_9 ?_
  refine r_si C hw (k12_in hF (X := moW G mo U ++ X) x 0 (((U.2 0) 0) - 1)) ml_X12_51 yf_X12_in (As := [.int x, .int 0, .int (((U.2 0) 0) - 1)]) rfl rfl ⟨Nat.le_of_ble_eq_true rfl, Nat.le_of_ble_eq_true rfl⟩ ⟨Nat.le_of_ble_eq_true rfl, Nat.le_of_ble_eq_true rfl⟩ hl.1 (Nat.le_of_ble_eq_true rfl) dX12_isStall_10 (fun r_10 _ H locs hp_10 hw => ?_)
  obtain rfl : r_10 = bI (inR x 0 (((U.2 0) 0) - 1)) := hp_10
  replace hw : WH G s (moW G mo U ++ X) H locs := hw
  exact r_iret C hw rfl (bI_nar _) () (rfl) rfl (Nat.le_of_ble_eq_true rfl) (Nat.le_of_ble_eq_true rfl) dX12_isStall_13

set_option maxHeartbeats 4000000 in
set_option maxRecDepth 100000 in
theorem k12_stall {l : Launch} {G : Gx} (hF : SF l G) {mo : Nat → Nat} {U : MV_} {X : va_W} {i k : Nat} (hi : i < 6) (hk : k < 2) : MI l G yX12_stall cX12_stall 3 .int 0 0 0 [.ref (mo 0), .int (nI i), .int (nI k)] (moW G mo U ++ X) (fun r _ => r = sF (U.2 0) i k) (fun _ : Unit => moW G mo U ++ X) := by
  refine mt_of hF (by decide) (Nat.le_of_ble_eq_true rfl) ?_
  intro p e s m below meth c C hin ls hl H locs hw
  have hl : lv_has ls 3 [(0, .ref (mo 0)), (1, .int (nI i)), (2, .int (nI k))] := hl
  refine lv_aload_n C.1 C.2.1 dX12_stall_0 rfl (lv_at hl 0 rfl) ?_
  refine r_get C hw 0 rfl rfl in_X12 0 (by decide) fl_X12_9 rfl (v := .ref (mo 1)) rfl dX12_stall_1 ?_
  refine lv_bipush (v := 9) C.1 C.2.1 dX12_stall_4 (by decide) ?_
  refine lv_iconst (v := 2) C.1 C.2.1 dX12_stall_6 (by decide) ?_
  refine lv_iload_n C.1 C.2.1 dX12_stall_7 rfl (lv_at hl 1 rfl) ?_
  refine lv_imul C.1 C.2.1 dX12_stall_8 ?_
  refine r_toe (pk_mul 2 i) ?_
  refine lv_iadd C.1 C.2.1 dX12_stall_9 ?_
  refine r_toe (nI_add 9 (2 * i)) ?_
  refine lv_iload_n C.1 C.2.1 dX12_stall_10 rfl (lv_at hl 2 rfl) ?_
  refine lv_iadd C.1 C.2.1 dX12_stall_11 ?_
  refine r_toe (nI_add (9 + (2 * i)) k) ?_
  refine r_iald C hw 1 rfl (vp_in_nI (n := ((9 + (2 * i)) + k)) (by omega) (by decide)) dX12_stall_12 ?_
  refine r_toe (show _ = (U.2 0) ((9 + (2 * i)) + k) from congrArg (U.2 0) (nI_clamp (n := ((9 + (2 * i)) + k)) (by omega))) ?_
  exact r_iret C hw rfl rfl () (rfl) rfl (Nat.le_of_ble_eq_true rfl) (Nat.le_of_ble_eq_true rfl) dX12_stall_13

set_option maxHeartbeats 4000000 in
set_option maxRecDepth 100000 in
theorem k12_of {l : Launch} {G : Gx} (hF : SF l G) {mo : Nat → Nat} {U : MV_} {X : va_W} {i k : Nat} (hi : i < 21) (hk : k < 6) : MI l G yX12_of cX12_of 3 .int 0 0 0 [.ref (mo 0), .int (nI i), .int (nI k)] (moW G mo U ++ X) (fun r _ => r = oF (U.2 0) i k) (fun _ : Unit => moW G mo U ++ X) := by
  refine mt_of hF (by decide) (Nat.le_of_ble_eq_true rfl) ?_
  intro p e s m below meth c C hin ls hl H locs hw
  have hl : lv_has ls 3 [(0, .ref (mo 0)), (1, .int (nI i)), (2, .int (nI k))] := hl
  refine lv_aload_n C.1 C.2.1 dX12_of_0 rfl (lv_at hl 0 rfl) ?_
  refine r_get C hw 0 rfl rfl in_X12 0 (by decide) fl_X12_9 rfl (v := .ref (mo 1)) rfl dX12_of_1 ?_
  refine lv_bipush (v := 21) C.1 C.2.1 dX12_of_4 (by decide) ?_
  refine lv_bipush (v := 6) C.1 C.2.1 dX12_of_6 (by decide) ?_
  refine lv_iload_n C.1 C.2.1 dX12_of_8 rfl (lv_at hl 1 rfl) ?_
  refine lv_imul C.1 C.2.1 dX12_of_9 ?_
  refine r_toe (pk_mul 6 i) ?_
  refine lv_iadd C.1 C.2.1 dX12_of_10 ?_
  refine r_toe (nI_add 21 (6 * i)) ?_
  refine lv_iload_n C.1 C.2.1 dX12_of_11 rfl (lv_at hl 2 rfl) ?_
  refine lv_iadd C.1 C.2.1 dX12_of_12 ?_
  refine r_toe (nI_add (21 + (6 * i)) k) ?_
  refine r_iald C hw 1 rfl (vp_in_nI (n := ((21 + (6 * i)) + k)) (by omega) (by decide)) dX12_of_13 ?_
  refine r_toe (show _ = (U.2 0) ((21 + (6 * i)) + k) from congrArg (U.2 0) (nI_clamp (n := ((21 + (6 * i)) + k)) (by omega))) ?_
  exact r_iret C hw rfl rfl () (rfl) rfl (Nat.le_of_ble_eq_true rfl) (Nat.le_of_ble_eq_true rfl) dX12_of_14

set_option maxHeartbeats 4000000 in
set_option maxRecDepth 100000 in
theorem k12_buys {l : Launch} {G : Gx} (hF : SF l G) {mo : Nat → Nat} {U : MV_} {X : va_W} {i : Nat} (hi : i < 21) : MI l G yX12_buys cX12_buys 2 .boolean 1 0 0 [.ref (mo 0), .int (nI i)] (moW G mo U ++ X) (fun r _ => r = bI (byF (U.2 0) i)) (fun _ : Unit => moW G mo U ++ X) := by
  refine mt_of hF (by decide) (Nat.le_of_ble_eq_true rfl) ?_
  intro p e s m below meth c C hin ls hl H locs hw
  have hl : lv_has ls 2 [(0, .ref (mo 0)), (1, .int (nI i))] := hl
  refine lv_aload_n C.1 C.2.1 dX12_buys_0 rfl (lv_at hl 0 rfl) ?_
  refine lv_iload_n C.1 C.2.1 dX12_buys_1 rfl (lv_at hl 1 rfl) ?_
  refine lv_iconst (v := 2) C.1 C.2.1 dX12_buys_2 (by decide) ?_
  refine r_vi C hw (k12_of hF (mo := mo) (U := U) (X := X) (i := i) (k := 2) (by omega) (by omega)) ml_X12_55 yf_X12_of 0 rfl rfl (As := [.int (nI i), .int 2]) rfl rfl ⟨Nat.le_of_ble_eq_true rfl, Nat.le_of_ble_eq_true rfl⟩ ⟨Nat.le_of_ble_eq_true rfl, Nat.le_of_ble_eq_true rfl⟩ hl.1 (Nat.le_of_ble_eq_true rfl) dX12_buys_3 (fun r_3 _ H locs hp_3 hw => ?_)
  obtain rfl : r_3 = oF (U.2 0) i 2 := hp_3
  replace hw : WH G s (moW G mo U ++ X) H locs := hw
  refine lv_iconst (v := 1) C.1 C.2.1 dX12_buys_6 (by decide) ?_
  refine lv_icmp_ne (tgt := 14) C.1 C.2.1 dX12_buys_7 (by decide) (fun c_7 => ?_) (fun c_7 => ?_)
  · refine lv_iconst (v := 0) C.1 C.2.1 dX12_buys_14 (by decide) ?_
    exact r_iret C hw rfl rfl () (by simp [byF, bI, c_7]) rfl (Nat.le_of_ble_eq_true rfl) (Nat.le_of_ble_eq_true rfl) dX12_buys_15
  · refine lv_iconst (v := 1) C.1 C.2.1 dX12_buys_10 (by decide) ?_
    refine lv_goto (tgt := 15) C.1 C.2.1 dX12_buys_11 (by decide) ?_
    exact r_iret C hw rfl rfl () (by simp [byF, bI, c_7]) rfl (Nat.le_of_ble_eq_true rfl) (Nat.le_of_ble_eq_true rfl) dX12_buys_15

set_option maxHeartbeats 4000000 in
set_option maxRecDepth 100000 in
theorem k12_keep {l : Launch} {G : Gx} (hF : SF l G) {mo : Nat → Nat} {U : MV_} {X : va_W} : MV l G yX12_keep cX12_keep 1 1 0 0 [.ref (mo 0)] (moW G mo U ++ X) (fun _ => True) (fun _ : Unit => moW G mo (mR (mI U 2 0) 1 (va_cpy (U.2 0) (U.2 1) 0 0 147)) ++ X) := by
  refine mt_of hF (by decide) (Nat.le_of_ble_eq_true rfl) ?_
  intro p e s m below meth c C hin ls hl H locs hw
  have hl : lv_has ls 1 [(0, .ref (mo 0))] := hl
  refine lv_aload_n C.1 C.2.1 dX12_keep_0 rfl (lv_at hl 0 rfl) ?_
  refine lv_iconst (v := 0) C.1 C.2.1 dX12_keep_1 (by decide) ?_
  refine r_put C hw 0 rfl rfl in_X12 tyX12 tyX12_ok nmX12 6 (by decide) fl_X12_39 rfl rfl rfl rfl (Nat.le_of_ble_eq_true rfl) (w' := moW G mo (mI U 2 0) ++ X) rfl dX12_keep_2 (fun H locs hw => ?_)
  refine lv_aload_n C.1 C.2.1 dX12_keep_5 rfl (lv_at hl 0 rfl) ?_
  refine r_get C hw 0 rfl rfl in_X12 0 (by decide) fl_X12_9 rfl (v := .ref (mo 1)) rfl dX12_keep_6 ?_
  refine lv_iconst (v := 0) C.1 C.2.1 dX12_keep_9 (by decide) ?_
  refine lv_aload_n C.1 C.2.1 dX12_keep_10 rfl (lv_at hl 0 rfl) ?_
  refine r_get C hw 0 rfl rfl in_X12 1 (by decide) fl_X12_13 rfl (v := .ref (mo 2)) rfl dX12_keep_11 ?_
  refine lv_iconst (v := 0) C.1 C.2.1 dX12_keep_14 (by decide) ?_
  refine lv_sipush (v := 147) C.1 C.2.1 dX12_keep_15 (by decide) ?_
  refine r_copyi C hw ml_X12_42 1 2 0 (sp := 0) (dp := 0) (k := 147) rfl rfl (ty := .int) rfl rfl (by omega) (by omega) (by decide) (by decide) (fun _ _ => rfl) (w' := moW G mo (mR (mI U 2 0) 1 (va_cpy (U.2 0) (U.2 1) 0 0 147)) ++ X) rfl hl.1 (Nat.le_of_ble_eq_true rfl) (by decide) dX12_keep_18 (fun H locs hw => ?_)
  exact r_vret C hw rfl () (trivial) rfl (Nat.le_of_ble_eq_true rfl) (Nat.le_of_ble_eq_true rfl) dX12_keep_21

/-- what ends does: taken back where something was thrown; else the state before goes to the row of the past -/
def endU (U : MV_) (h : Nat) : MV_ := if U.1 2 ≤ 0 then mI (mR U 3 (va_cpy (U.2 1) (if h = 8 then va_cpy (U.2 3) (U.2 3) 147 0 1029 else U.2 3) 0 (147 * (if h = 8 then 7 else h)) 147)) 1 (nI ((if h = 8 then 7 else h) + 1)) else mR U 0 (va_cpy (U.2 1) (U.2 0) 0 0 147)
def endA (U : MV_) (x : Int32) : Int32 := if U.1 2 ≤ 0 then x else 0
set_option maxHeartbeats 4000000 in
set_option maxRecDepth 100000 in
theorem k12_ends {l : Launch} {G : Gx} (hF : SF l G) {mo : Nat → Nat} {U : MV_} {X : va_W} {h : Nat} (hh1 : U.1 1 = nI h) (hh8 : h ≤ 8) (x : Int32) : MI l G yX12_ends cX12_ends 2 .int 1 0 0 [.ref (mo 0), .int x] (moW G mo U ++ X) (fun r _ => r = endA U x) (fun _ : Unit => moW G mo (endU U h) ++ X) := by
  refine mt_of hF (by decide) (Nat.le_of_ble_eq_true rfl) ?_
  intro p e s m below meth c C hin ls hl H locs hw
  have hl : lv_has ls 2 [(0, .ref (mo 0)), (1, .int x)] := hl
  refine lv_aload_n C.1 C.2.1 dX12_ends_0 rfl (lv_at hl 0 rfl) ?_
  refine r_get C hw 0 rfl rfl in_X12 6 (by decide) fl_X12_39 rfl (v := .int (U.1 2)) rfl dX12_ends_1 ?_
  refine lv_if_le (tgt := 25) C.1 C.2.1 dX12_ends_4 (by decide) (fun c_4 => ?_) (fun c_4 => ?_)
  · refine lv_aload_n C.1 C.2.1 dX12_ends_25 rfl (lv_at hl 0 rfl) ?_
    refine r_get C hw 0 rfl rfl in_X12 5 (by decide) fl_X12_48 rfl (v := .int (U.1 1)) rfl dX12_ends_26 ?_
    refine r_toe (show _ = nI h from hh1) ?_
    refine lv_bipush (v := 8) C.1 C.2.1 dX12_ends_29 (by decide) ?_
    refine lv_icmp_ne (tgt := 62) C.1 C.2.1 dX12_ends_31 (by decide) (fun c_31 => ?_) (fun c_31 => ?_)
    · have hh : ¬ h = 8 := fun q => c_31 (by rw [q]; rfl)
      refine lv_aload_n C.1 C.2.1 dX12_ends_62 rfl (lv_at hl 0 rfl) ?_
      refine r_get C hw 0 rfl rfl in_X12 1 (by decide) fl_X12_13 rfl (v := .ref (mo 2)) rfl dX12_ends_63 ?_
      refine lv_iconst (v := 0) C.1 C.2.1 dX12_ends_66 (by decide) ?_
      refine lv_aload_n C.1 C.2.1 dX12_ends_67 rfl (lv_at hl 0 rfl) ?_
      refine r_get C hw 0 rfl rfl in_X12 4 (by decide) fl_X12_19 rfl (v := .ref (mo 4)) rfl dX12_ends_68 ?_
      refine lv_sipush (v := 147) C.1 C.2.1 dX12_ends_71 (by decide) ?_
      refine lv_aload_n C.1 C.2.1 dX12_ends_74 rfl (lv_at hl 0 rfl) ?_
      refine r_get C hw 0 rfl rfl in_X12 5 (by decide) fl_X12_48 rfl (v := .int (U.1 1)) rfl dX12_ends_75 ?_
      refine r_toe (show _ = nI h from hh1) ?_
      refine lv_imul C.1 C.2.1 dX12_ends_78 ?_
      refine r_toe (pk_mul 147 h) ?_
      refine lv_sipush (v := 147) C.1 C.2.1 dX12_ends_79 (by decide) ?_
      refine r_copyi C hw ml_X12_42 2 4 0 (sp := 0) (dp := (147 * h)) (k := 147) rfl rfl (ty := .int) rfl rfl (by omega) (by omega) (by decide) (by decide) (fun _ _ => rfl) (w' := moW G mo (mR U 3 (va_cpy (U.2 1) (U.2 3) 0 (147 * h) 147)) ++ X) rfl hl.1 (Nat.le_of_ble_eq_true rfl) (by decide) dX12_ends_82 (fun H locs hw => ?_)
      refine lv_aload_n C.1 C.2.1 dX12_ends_85 rfl (lv_at hl 0 rfl) ?_
      refine lv_dup C.1 C.2.1 dX12_ends_86 rfl ?_
      refine r_get C hw 0 rfl rfl in_X12 5 (by decide) fl_X12_48 rfl (v := .int (U.1 1)) rfl dX12_ends_87 ?_
      refine r_toe (show _ = nI h from hh1) ?_
      refine lv_iconst (v := 1) C.1 C.2.1 dX12_ends_90 (by decide) ?_
      refine lv_iadd C.1 C.2.1 dX12_ends_91 ?_
      refine r_toe (nI_add h 1) ?_
      refine r_put C hw 0 rfl rfl in_X12 tyX12 tyX12_ok nmX12 5 (by decide) fl_X12_48 rfl rfl rfl rfl (Nat.le_of_ble_eq_true rfl) (w' := moW G mo (mI (mR U 3 (va_cpy (U.2 1) (U.2 3) 0 (147 * h) 147)) 1 (nI (h + 1))) ++ X) rfl dX12_ends_92 (fun H locs hw => ?_)
      refine lv_iload_n C.1 C.2.1 dX12_ends_95 rfl (lv_at hl 1 rfl) ?_
      exact r_iret C hw rfl rfl () (by rw [endA, if_pos c_4]) (by rw [endU, if_pos c_4, if_neg hh, if_neg hh] <;> rfl) (Nat.le_of_ble_eq_true rfl) (Nat.le_of_ble_eq_true rfl) dX12_ends_96
    · obtain rfl : h = 8 := (nI_eq (b := 8) (by omega) (by decide)).mp c_31
      have hh : (8 : Nat) = 8 := rfl
      refine lv_aload_n C.1 C.2.1 dX12_ends_34 rfl (lv_at hl 0 rfl) ?_
      refine r_get C hw 0 rfl rfl in_X12 4 (by decide) fl_X12_19 rfl (v := .ref (mo 4)) rfl dX12_ends_35 ?_
      refine lv_sipush (v := 147) C.1 C.2.1 dX12_ends_38 (by decide) ?_
      refine lv_aload_n C.1 C.2.1 dX12_ends_41 rfl (lv_at hl 0 rfl) ?_
      refine r_get C hw 0 rfl rfl in_X12 4 (by decide) fl_X12_19 rfl (v := .ref (mo 4)) rfl dX12_ends_42 ?_
      refine lv_iconst (v := 0) C.1 C.2.1 dX12_ends_45 (by decide) ?_
      refine lv_sipush (v := 1029) C.1 C.2.1 dX12_ends_46 (by decide) ?_
      refine r_copyi C hw ml_X12_42 4 4 0 (sp := 147) (dp := 0) (k := 1029) rfl rfl (ty := .int) rfl rfl (by omega) (by omega) (by decide) (by decide) (fun _ _ => rfl) (w' := moW G mo (mR U 3 (va_cpy (U.2 3) (U.2 3) 147 0 1029)) ++ X) rfl hl.1 (Nat.le_of_ble_eq_true rfl) (by decide) dX12_ends_49 (fun H locs hw => ?_)
      refine lv_aload_n C.1 C.2.1 dX12_ends_52 rfl (lv_at hl 0 rfl) ?_
      refine lv_dup C.1 C.2.1 dX12_ends_53 rfl ?_
      refine r_get C hw 0 rfl rfl in_X12 5 (by decide) fl_X12_48 rfl (v := .int (U.1 1)) rfl dX12_ends_54 ?_
      refine r_toe (show _ = nI 8 from hh1) ?_
      refine lv_iconst (v := 1) C.1 C.2.1 dX12_ends_57 (by decide) ?_
      refine lv_isub C.1 C.2.1 dX12_ends_58 ?_
      refine r_toe (show _ = nI 7 from by decide) ?_
      refine r_put C hw 0 rfl rfl in_X12 tyX12 tyX12_ok nmX12 5 (by decide) fl_X12_48 rfl rfl rfl rfl (Nat.le_of_ble_eq_true rfl) (w' := moW G mo (mI (mR U 3 (va_cpy (U.2 3) (U.2 3) 147 0 1029)) 1 (nI 7)) ++ X) rfl dX12_ends_59 (fun H locs hw => ?_)
      refine lv_aload_n C.1 C.2.1 dX12_ends_62 rfl (lv_at hl 0 rfl) ?_
      refine r_get C hw 0 rfl rfl in_X12 1 (by decide) fl_X12_13 rfl (v := .ref (mo 2)) rfl dX12_ends_63 ?_
      refine lv_iconst (v := 0) C.1 C.2.1 dX12_ends_66 (by decide) ?_
      refine lv_aload_n C.1 C.2.1 dX12_ends_67 rfl (lv_at hl 0 rfl) ?_
      refine r_get C hw 0 rfl rfl in_X12 4 (by decide) fl_X12_19 rfl (v := .ref (mo 4)) rfl dX12_ends_68 ?_
      refine lv_sipush (v := 147) C.1 C.2.1 dX12_ends_71 (by decide) ?_
      refine lv_aload_n C.1 C.2.1 dX12_ends_74 rfl (lv_at hl 0 rfl) ?_
      refine r_get C hw 0 rfl rfl in_X12 5 (by decide) fl_X12_48 rfl (v := .int (nI 7)) rfl dX12_ends_75 ?_
      refine lv_imul C.1 C.2.1 dX12_ends_78 ?_
      refine r_toe (pk_mul 147 7) ?_
      refine lv_sipush (v := 147) C.1 C.2.1 dX12_ends_79 (by decide) ?_
      refine r_copyi C hw ml_X12_42 2 4 0 (sp := 0) (dp := (147 * 7)) (k := 147) rfl rfl (ty := .int) rfl rfl (by omega) (by omega) (by decide) (by decide) (fun _ _ => rfl) (w' := moW G mo (mR (mI (mR U 3 (va_cpy (U.2 3) (U.2 3) 147 0 1029)) 1 (nI 7)) 3 (va_cpy (U.2 1) (va_cpy (U.2 3) (U.2 3) 147 0 1029) 0 (147 * 7) 147)) ++ X) rfl hl.1 (Nat.le_of_ble_eq_true rfl) (by decide) dX12_ends_82 (fun H locs hw => ?_)
      refine lv_aload_n C.1 C.2.1 dX12_ends_85 rfl (lv_at hl 0 rfl) ?_
      refine lv_dup C.1 C.2.1 dX12_ends_86 rfl ?_
      refine r_get C hw 0 rfl rfl in_X12 5 (by decide) fl_X12_48 rfl (v := .int (nI 7)) rfl dX12_ends_87 ?_
      refine lv_iconst (v := 1) C.1 C.2.1 dX12_ends_90 (by decide) ?_
      refine lv_iadd C.1 C.2.1 dX12_ends_91 ?_
      refine r_toe (nI_add 7 1) ?_
      refine r_put C hw 0 rfl rfl in_X12 tyX12 tyX12_ok nmX12 5 (by decide) fl_X12_48 rfl rfl rfl rfl (Nat.le_of_ble_eq_true rfl) (w' := moW G mo (mI (mR (mI (mR U 3 (va_cpy (U.2 3) (U.2 3) 147 0 1029)) 1 (nI 7)) 3 (va_cpy (U.2 1) (va_cpy (U.2 3) (U.2 3) 147 0 1029) 0 (147 * 7) 147)) 1 (nI (7 + 1))) ++ X) rfl dX12_ends_92 (fun H locs hw => ?_)
      refine lv_iload_n C.1 C.2.1 dX12_ends_95 rfl (lv_at hl 1 rfl) ?_
      exact r_iret C hw rfl rfl () (by rw [endA, if_pos c_4]) (by rw [endU, if_pos c_4, if_pos hh, if_pos hh] <;> rfl) (Nat.le_of_ble_eq_true rfl) (Nat.le_of_ble_eq_true rfl) dX12_ends_96
  · refine lv_aload_n C.1 C.2.1 dX12_ends_7 rfl (lv_at hl 0 rfl) ?_
    refine r_get C hw 0 rfl rfl in_X12 1 (by decide) fl_X12_13 rfl (v := .ref (mo 2)) rfl dX12_ends_8 ?_
    refine lv_iconst (v := 0) C.1 C.2.1 dX12_ends_11 (by decide) ?_
    refine lv_aload_n C.1 C.2.1 dX12_ends_12 rfl (lv_at hl 0 rfl) ?_
    refine r_get C hw 0 rfl rfl in_X12 0 (by decide) fl_X12_9 rfl (v := .ref (mo 1)) rfl dX12_ends_13 ?_
    refine lv_iconst (v := 0) C.1 C.2.1 dX12_ends_16 (by decide) ?_
    refine lv_sipush (v := 147) C.1 C.2.1 dX12_ends_17 (by decide) ?_
    refine r_copyi C hw ml_X12_42 2 1 0 (sp := 0) (dp := 0) (k := 147) rfl rfl (ty := .int) rfl rfl (by omega) (by omega) (by decide) (by decide) (fun _ _ => rfl) (w' := moW G mo (mR U 0 (va_cpy (U.2 1) (U.2 0) 0 0 147)) ++ X) rfl hl.1 (Nat.le_of_ble_eq_true rfl) (by decide) dX12_ends_20 (fun H locs hw => ?_)
    refine lv_iconst (v := 0) C.1 C.2.1 dX12_ends_23 (by decide) ?_
    exact r_iret C hw rfl rfl () (by rw [endA, if_neg c_4]) (by rw [endU, if_neg c_4]) (Nat.le_of_ble_eq_true rfl) (Nat.le_of_ble_eq_true rfl) dX12_ends_24

