/-! The model: lines, typing, undo and what is saved -/
def unM (U : MV_) (h : Nat) : MV_ × Int32 := if h = 0 then (mI U 2 1, 0) else (mR (mI (mI U 2 0) 1 (nI (h - 1))) 0 (va_cpy (U.2 3) (U.2 0) (147 * (h - 1)) 0 147), nI (h - 1))
def svM (U : MV_) : MV_ × Int32 := (mI (mR (mI U 2 0) 2 (va_cpy (U.2 0) (U.2 2) 0 0 147)) 0 1, U.2 0 1)
def reM (U : MV_) : MV_ × Int32 := if U.1 0 = 0 then (mI U 2 1, 0) else (mI (mR (mI U 2 0) 0 (va_cpy (U.2 2) (U.2 0) 0 0 147)) 1 0, va_cpy (U.2 2) (U.2 0) 0 0 147 1)
def tyM (U : MV_) (x : Int32) (n : Nat) : MV_ × Int32 := if inR x 32 126 = false then (mI U 2 1, 0) else if n = 60 then (mI U 2 2, 0) else (mI (mR (mI U 2 0) 5 (upd (U.2 5) n (vp_nar .char x))) 4 (nI (n + 1)), nI (n + 1))
def isCh (x : Int32) : Prop := ∃ q : Nat, q < 65536 ∧ x = nI q
theorem ch_n {x : Int32} (h : isCh x) : narrow .char (.int x) = .int x := by obtain ⟨q, hq, rfl⟩ := h; exact (pk_charN hq).1
theorem ch_f {x : Int32} (h : isCh x) : fits .char (.int x) = true := by obtain ⟨q, hq, rfl⟩ := h; exact (pk_charN hq).2
def beC (U : MV_) (ln : Nat) (t k : Nat) : Int32 := if t + k < ln then U.2 5 (t + k) else -1
/-- signs put down one by one -/
def puL (f : Nat → Int32) : Nat → List Int32 → Nat → Int32
  | _, [] => f
  | k, c :: t => puL (upd f k (vp_nar .char c)) (k + 1) t
def syU (U : MV_) (k : Nat) (t : List Int32) : MV_ := mI (mR U 4 (puL (U.2 4) k t)) 3 (nI (k + t.length))
theorem puL_app {f : Nat → Int32} : ∀ {k : Nat} {a b : List Int32}, puL f k (a ++ b) = puL (puL f k a) (k + a.length) b := by
  intro k a b
  induction a generalizing f k with
  | nil => rfl
  | cons c t ih => rw [List.cons_append, puL, puL, ih, List.length_cons, show k + 1 + t.length = k + (t.length + 1) by omega]
theorem syU_app {U : MV_} {k : Nat} {a b : List Int32} {j : Nat} (hj : j = k + a.length) : syU (syU U k a) j b = syU U k (a ++ b) := by
  subst hj
  unfold syU
  have e4 : (mI (mR U 4 (puL (U.2 4) k a)) 3 (nI (k + a.length))).2 4 = puL (U.2 4) k a := by simp [mI, mR, va_up]
  rw [e4, puL_app, List.length_append, show k + (a.length + b.length) = k + a.length + b.length by omega]
  unfold mI mR
  congr 1
  · funext q; by_cases h : q = 3 <;> simp [va_up, h]
  · funext q; by_cases h : q = 4 <;> simp [va_up, h]
theorem syU_3 {U : MV_} {k : Nat} {a : List Int32} : (syU U k a).1 3 = nI (k + a.length) := by simp [syU, mI, va_up]
theorem syU_0 {U : MV_} {k : Nat} {a : List Int32} {j : Nat} (h : ¬ j = 4) : (syU U k a).2 j = U.2 j := by simp [syU, mI, mR, va_up, h]
/-- the digits of a number -/
def dgL : Nat → Nat → List Int32
  | 0, n => [nI (48 + n % 10)]
  | t + 1, n => if n ≤ 9 then [nI (48 + n % 10)] else dgL t (n / 10) ++ [nI (48 + n % 10)]
theorem dgL_len : ∀ {t n : Nat}, (dgL t n).length ≤ t + 1 ∧ 1 ≤ (dgL t n).length
  | 0, n => ⟨Nat.le_refl _, Nat.le_refl _⟩
  | t + 1, n => by
    rw [dgL]
    split
    · exact ⟨by simp, by simp⟩
    · have := @dgL_len t (n / 10)
      rw [List.length_append, List.length_singleton]
      omega

set_option maxHeartbeats 4000000 in
set_option maxRecDepth 100000 in
theorem k12_undo {l : Launch} {G : Gx} (hF : SF l G) {mo : Nat → Nat} {U : MV_} {X : va_W} {h : Nat} (hh1 : U.1 1 = nI h) (hh8 : h ≤ 8) : MI l G yX12_undo cX12_undo 1 .int 1 0 0 [.ref (mo 0)] (moW G mo U ++ X) (fun r _ => r = (unM U h).2) (fun _ : Unit => moW G mo ((unM U h).1) ++ X) := by
  refine mt_of hF (by decide) (Nat.le_of_ble_eq_true rfl) ?_
  intro p e s m below meth c C hin ls hl H locs hw
  have hl : lv_has ls 1 [(0, .ref (mo 0))] := hl
  refine lv_aload_n C.1 C.2.1 dX12_undo_0 rfl (lv_at hl 0 rfl) ?_
  refine lv_aload_n C.1 C.2.1 dX12_undo_1 rfl (lv_at hl 0 rfl) ?_
  refine r_get C hw 0 rfl rfl in_X12 5 (by decide) fl_X12_48 rfl (v := .int (U.1 1)) rfl dX12_undo_2 ?_
  refine r_toe (show _ = nI h from hh1) ?_
  refine lv_if_ne (tgt := 12) C.1 C.2.1 dX12_undo_5 (by decide) (fun c_5 => ?_) (fun c_5 => ?_)
  · have hz : ¬ h = 0 := fun q => c_5 (by rw [q]; rfl)
    refine lv_iconst (v := 0) C.1 C.2.1 dX12_undo_12 (by decide) ?_
    refine r_put C hw 0 rfl rfl in_X12 tyX12 tyX12_ok nmX12 6 (by decide) fl_X12_39 rfl rfl rfl rfl (Nat.le_of_ble_eq_true rfl) (w' := moW G mo (mI U 2 0) ++ X) rfl dX12_undo_13 (fun H locs hw => ?_)
    refine lv_aload_n C.1 C.2.1 dX12_undo_16 rfl (lv_at hl 0 rfl) ?_
    refine r_get C hw 0 rfl rfl in_X12 6 (by decide) fl_X12_39 rfl (v := .int 0) rfl dX12_undo_17 ?_
    refine lv_if_le (tgt := 25) C.1 C.2.1 dX12_undo_20 (by decide) (fun c_20 => ?_) (fun c_20 => absurd (by decide) c_20)
    refine lv_aload_n C.1 C.2.1 dX12_undo_25 rfl (lv_at hl 0 rfl) ?_
    refine lv_dup C.1 C.2.1 dX12_undo_26 rfl ?_
    refine r_get C hw 0 rfl rfl in_X12 5 (by decide) fl_X12_48 rfl (v := .int (U.1 1)) rfl dX12_undo_27 ?_
    refine r_toe (show _ = nI h from hh1) ?_
    refine lv_iconst (v := 1) C.1 C.2.1 dX12_undo_30 (by decide) ?_
    refine lv_isub C.1 C.2.1 dX12_undo_31 ?_
    refine r_toe (show _ = nI (h - 1) from nI_p1 (by omega)) ?_
    refine r_put C hw 0 rfl rfl in_X12 tyX12 tyX12_ok nmX12 5 (by decide) fl_X12_48 rfl rfl rfl rfl (Nat.le_of_ble_eq_true rfl) (w' := moW G mo (mI (mI U 2 0) 1 (nI (h - 1))) ++ X) rfl dX12_undo_32 (fun H locs hw => ?_)
    refine lv_aload_n C.1 C.2.1 dX12_undo_35 rfl (lv_at hl 0 rfl) ?_
    refine r_get C hw 0 rfl rfl in_X12 4 (by decide) fl_X12_19 rfl (v := .ref (mo 4)) rfl dX12_undo_36 ?_
    refine lv_sipush (v := 147) C.1 C.2.1 dX12_undo_39 (by decide) ?_
    refine lv_aload_n C.1 C.2.1 dX12_undo_42 rfl (lv_at hl 0 rfl) ?_
    refine r_get C hw 0 rfl rfl in_X12 5 (by decide) fl_X12_48 rfl (v := .int (nI (h - 1))) rfl dX12_undo_43 ?_
    refine lv_imul C.1 C.2.1 dX12_undo_46 ?_
    refine r_toe (pk_mul 147 (h - 1)) ?_
    refine lv_aload_n C.1 C.2.1 dX12_undo_47 rfl (lv_at hl 0 rfl) ?_
    refine r_get C hw 0 rfl rfl in_X12 0 (by decide) fl_X12_9 rfl (v := .ref (mo 1)) rfl dX12_undo_48 ?_
    refine lv_iconst (v := 0) C.1 C.2.1 dX12_undo_51 (by decide) ?_
    refine lv_sipush (v := 147) C.1 C.2.1 dX12_undo_52 (by decide) ?_
    refine r_copyi C hw ml_X12_42 4 1 0 (sp := (147 * (h - 1))) (dp := 0) (k := 147) rfl rfl (ty := .int) rfl rfl (by omega) (by omega) (by decide) (by decide) (fun _ _ => rfl) (w' := moW G mo (mR (mI (mI U 2 0) 1 (nI (h - 1))) 0 (va_cpy (U.2 3) (U.2 0) (147 * (h - 1)) 0 147)) ++ X) rfl hl.1 (Nat.le_of_ble_eq_true rfl) (by decide) dX12_undo_55 (fun H locs hw => ?_)
    refine lv_aload_n C.1 C.2.1 dX12_undo_58 rfl (lv_at hl 0 rfl) ?_
    refine r_get C hw 0 rfl rfl in_X12 5 (by decide) fl_X12_48 rfl (v := .int (nI (h - 1))) rfl dX12_undo_59 ?_
    exact r_iret C hw rfl rfl () (by rw [unM, if_neg hz]) (by rw [unM, if_neg hz] <;> rfl) (Nat.le_of_ble_eq_true rfl) (Nat.le_of_ble_eq_true rfl) dX12_undo_62
  · have hz : h = 0 := (nI_eq (b := 0) (by omega) (by decide)).mp c_5
    refine lv_iconst (v := 1) C.1 C.2.1 dX12_undo_8 (by decide) ?_
    refine lv_goto (tgt := 13) C.1 C.2.1 dX12_undo_9 (by decide) ?_
    refine r_put C hw 0 rfl rfl in_X12 tyX12 tyX12_ok nmX12 6 (by decide) fl_X12_39 rfl rfl rfl rfl (Nat.le_of_ble_eq_true rfl) (w' := moW G mo (mI U 2 1) ++ X) rfl dX12_undo_13 (fun H locs hw => ?_)
    refine lv_aload_n C.1 C.2.1 dX12_undo_16 rfl (lv_at hl 0 rfl) ?_
    refine r_get C hw 0 rfl rfl in_X12 6 (by decide) fl_X12_39 rfl (v := .int 1) rfl dX12_undo_17 ?_
    refine lv_if_le (tgt := 25) C.1 C.2.1 dX12_undo_20 (by decide) (fun c_20 => absurd c_20 (by decide)) (fun c_20 => ?_)
    refine lv_iconst (v := 0) C.1 C.2.1 dX12_undo_23 (by decide) ?_
    exact r_iret C hw rfl rfl () (by rw [unM, if_pos hz]) (by rw [unM, if_pos hz]) (Nat.le_of_ble_eq_true rfl) (Nat.le_of_ble_eq_true rfl) dX12_undo_24

set_option maxHeartbeats 4000000 in
set_option maxRecDepth 100000 in
theorem k12_save {l : Launch} {G : Gx} (hF : SF l G) {mo : Nat → Nat} {U : MV_} {X : va_W} : MI l G yX12_save cX12_save 1 .int 1 0 0 [.ref (mo 0)] (moW G mo U ++ X) (fun r _ => r = (svM U).2) (fun _ : Unit => moW G mo ((svM U).1) ++ X) := by
  refine mt_of hF (by decide) (Nat.le_of_ble_eq_true rfl) ?_
  intro p e s m below meth c C hin ls hl H locs hw
  have hl : lv_has ls 1 [(0, .ref (mo 0))] := hl
  refine lv_aload_n C.1 C.2.1 dX12_save_0 rfl (lv_at hl 0 rfl) ?_
  refine lv_iconst (v := 0) C.1 C.2.1 dX12_save_1 (by decide) ?_
  refine r_put C hw 0 rfl rfl in_X12 tyX12 tyX12_ok nmX12 6 (by decide) fl_X12_39 rfl rfl rfl rfl (Nat.le_of_ble_eq_true rfl) (w' := moW G mo (mI U 2 0) ++ X) rfl dX12_save_2 (fun H locs hw => ?_)
  refine lv_aload_n C.1 C.2.1 dX12_save_5 rfl (lv_at hl 0 rfl) ?_
  refine r_get C hw 0 rfl rfl in_X12 0 (by decide) fl_X12_9 rfl (v := .ref (mo 1)) rfl dX12_save_6 ?_
  refine lv_iconst (v := 0) C.1 C.2.1 dX12_save_9 (by decide) ?_
  refine lv_aload_n C.1 C.2.1 dX12_save_10 rfl (lv_at hl 0 rfl) ?_
  refine r_get C hw 0 rfl rfl in_X12 2 (by decide) fl_X12_16 rfl (v := .ref (mo 3)) rfl dX12_save_11 ?_
  refine lv_iconst (v := 0) C.1 C.2.1 dX12_save_14 (by decide) ?_
  refine lv_sipush (v := 147) C.1 C.2.1 dX12_save_15 (by decide) ?_
  refine r_copyi C hw ml_X12_42 1 3 0 (sp := 0) (dp := 0) (k := 147) rfl rfl (ty := .int) rfl rfl (by omega) (by omega) (by decide) (by decide) (fun _ _ => rfl) (w' := moW G mo (mR (mI U 2 0) 2 (va_cpy (U.2 0) (U.2 2) 0 0 147)) ++ X) rfl hl.1 (Nat.le_of_ble_eq_true rfl) (by decide) dX12_save_18 (fun H locs hw => ?_)
  refine lv_aload_n C.1 C.2.1 dX12_save_21 rfl (lv_at hl 0 rfl) ?_
  refine lv_iconst (v := 1) C.1 C.2.1 dX12_save_22 (by decide) ?_
  refine r_put C hw 0 rfl rfl in_X12 tyX12 tyX12_ok nmX12 3 (by decide) fl_X12_238 rfl rfl rfl rfl (Nat.le_of_ble_eq_true rfl) (w' := moW G mo (mI (mR (mI U 2 0) 2 (va_cpy (U.2 0) (U.2 2) 0 0 147)) 0 1) ++ X) rfl dX12_save_23 (fun H locs hw => ?_)
  refine lv_aload_n C.1 C.2.1 dX12_save_26 rfl (lv_at hl 0 rfl) ?_
  refine r_get C hw 0 rfl rfl in_X12 0 (by decide) fl_X12_9 rfl (v := .ref (mo 1)) rfl dX12_save_27 ?_
  refine lv_iconst (v := 1) C.1 C.2.1 dX12_save_30 (by decide) ?_
  refine r_iald C hw 1 rfl (vp_in_nI (n := 1) (by omega) (by decide)) dX12_save_31 ?_
  refine r_toe (show _ = (U.2 0) 1 from congrArg (U.2 0) (nI_clamp (n := 1) (by omega))) ?_
  exact r_iret C hw rfl rfl () (rfl) rfl (Nat.le_of_ble_eq_true rfl) (Nat.le_of_ble_eq_true rfl) dX12_save_32

set_option maxHeartbeats 4000000 in
set_option maxRecDepth 100000 in
theorem k12_restore {l : Launch} {G : Gx} (hF : SF l G) {mo : Nat → Nat} {U : MV_} {X : va_W} : MI l G yX12_restore cX12_restore 1 .int 1 0 0 [.ref (mo 0)] (moW G mo U ++ X) (fun r _ => r = (reM U).2) (fun _ : Unit => moW G mo ((reM U).1) ++ X) := by
  refine mt_of hF (by decide) (Nat.le_of_ble_eq_true rfl) ?_
  intro p e s m below meth c C hin ls hl H locs hw
  have hl : lv_has ls 1 [(0, .ref (mo 0))] := hl
  refine lv_aload_n C.1 C.2.1 dX12_restore_0 rfl (lv_at hl 0 rfl) ?_
  refine lv_aload_n C.1 C.2.1 dX12_restore_1 rfl (lv_at hl 0 rfl) ?_
  refine r_get C hw 0 rfl rfl in_X12 3 (by decide) fl_X12_238 rfl (v := .int (U.1 0)) rfl dX12_restore_2 ?_
  refine lv_if_eq (tgt := 12) C.1 C.2.1 dX12_restore_5 (by decide) (fun c_5 => ?_) (fun c_5 => ?_)
  · refine lv_iconst (v := 1) C.1 C.2.1 dX12_restore_12 (by decide) ?_
    refine r_put C hw 0 rfl rfl in_X12 tyX12 tyX12_ok nmX12 6 (by decide) fl_X12_39 rfl rfl rfl rfl (Nat.le_of_ble_eq_true rfl) (w' := moW G mo (mI U 2 1) ++ X) rfl dX12_restore_13 (fun H locs hw => ?_)
    refine lv_aload_n C.1 C.2.1 dX12_restore_16 rfl (lv_at hl 0 rfl) ?_
    refine r_get C hw 0 rfl rfl in_X12 6 (by decide) fl_X12_39 rfl (v := .int 1) rfl dX12_restore_17 ?_
    refine lv_if_le (tgt := 25) C.1 C.2.1 dX12_restore_20 (by decide) (fun c_20 => absurd c_20 (by decide)) (fun c_20 => ?_)
    refine lv_iconst (v := 0) C.1 C.2.1 dX12_restore_23 (by decide) ?_
    exact r_iret C hw rfl rfl () (by rw [reM, if_pos c_5]) (by rw [reM, if_pos c_5]) (Nat.le_of_ble_eq_true rfl) (Nat.le_of_ble_eq_true rfl) dX12_restore_24
  · refine lv_iconst (v := 0) C.1 C.2.1 dX12_restore_8 (by decide) ?_
    refine lv_goto (tgt := 13) C.1 C.2.1 dX12_restore_9 (by decide) ?_
    refine r_put C hw 0 rfl rfl in_X12 tyX12 tyX12_ok nmX12 6 (by decide) fl_X12_39 rfl rfl rfl rfl (Nat.le_of_ble_eq_true rfl) (w' := moW G mo (mI U 2 0) ++ X) rfl dX12_restore_13 (fun H locs hw => ?_)
    refine lv_aload_n C.1 C.2.1 dX12_restore_16 rfl (lv_at hl 0 rfl) ?_
    refine r_get C hw 0 rfl rfl in_X12 6 (by decide) fl_X12_39 rfl (v := .int 0) rfl dX12_restore_17 ?_
    refine lv_if_le (tgt := 25) C.1 C.2.1 dX12_restore_20 (by decide) (fun c_20 => ?_) (fun c_20 => absurd (by decide) c_20)
    refine lv_aload_n C.1 C.2.1 dX12_restore_25 rfl (lv_at hl 0 rfl) ?_
    refine r_get C hw 0 rfl rfl in_X12 2 (by decide) fl_X12_16 rfl (v := .ref (mo 3)) rfl dX12_restore_26 ?_
    refine lv_iconst (v := 0) C.1 C.2.1 dX12_restore_29 (by decide) ?_
    refine lv_aload_n C.1 C.2.1 dX12_restore_30 rfl (lv_at hl 0 rfl) ?_
    refine r_get C hw 0 rfl rfl in_X12 0 (by decide) fl_X12_9 rfl (v := .ref (mo 1)) rfl dX12_restore_31 ?_
    refine lv_iconst (v := 0) C.1 C.2.1 dX12_restore_34 (by decide) ?_
    refine lv_sipush (v := 147) C.1 C.2.1 dX12_restore_35 (by decide) ?_
    refine r_copyi C hw ml_X12_42 3 1 0 (sp := 0) (dp := 0) (k := 147) rfl rfl (ty := .int) rfl rfl (by omega) (by omega) (by decide) (by decide) (fun _ _ => rfl) (w' := moW G mo (mR (mI U 2 0) 0 (va_cpy (U.2 2) (U.2 0) 0 0 147)) ++ X) rfl hl.1 (Nat.le_of_ble_eq_true rfl) (by decide) dX12_restore_38 (fun H locs hw => ?_)
    refine lv_aload_n C.1 C.2.1 dX12_restore_41 rfl (lv_at hl 0 rfl) ?_
    refine lv_iconst (v := 0) C.1 C.2.1 dX12_restore_42 (by decide) ?_
    refine r_put C hw 0 rfl rfl in_X12 tyX12 tyX12_ok nmX12 5 (by decide) fl_X12_48 rfl rfl rfl rfl (Nat.le_of_ble_eq_true rfl) (w' := moW G mo (mI (mR (mI U 2 0) 0 (va_cpy (U.2 2) (U.2 0) 0 0 147)) 1 0) ++ X) rfl dX12_restore_43 (fun H locs hw => ?_)
    refine lv_aload_n C.1 C.2.1 dX12_restore_46 rfl (lv_at hl 0 rfl) ?_
    refine r_get C hw 0 rfl rfl in_X12 0 (by decide) fl_X12_9 rfl (v := .ref (mo 1)) rfl dX12_restore_47 ?_
    refine lv_iconst (v := 1) C.1 C.2.1 dX12_restore_50 (by decide) ?_
    refine r_iald C hw 1 rfl (vp_in_nI (n := 1) (by omega) (by decide)) dX12_restore_51 ?_
    refine r_toe (show _ = (va_cpy (U.2 2) (U.2 0) 0 0 147) 1 from congrArg (va_cpy (U.2 2) (U.2 0) 0 0 147) (nI_clamp (n := 1) (by omega))) ?_
    exact r_iret C hw rfl rfl () (by rw [reM, if_neg c_5]) (by rw [reM, if_neg c_5] <;> rfl) (Nat.le_of_ble_eq_true rfl) (Nat.le_of_ble_eq_true rfl) dX12_restore_52

set_option maxHeartbeats 4000000 in
set_option maxRecDepth 100000 in
theorem k12_errorPosition {l : Launch} {G : Gx} (hF : SF l G) {mo : Nat → Nat} {U : MV_} {X : va_W} : MI l G yX12_errorPosition cX12_errorPosition 1 .int 3 0 0 [.ref (mo 0)] (moW G mo U ++ X) (fun r _ => r = (if (!decide (U.1 7 < 0)) = true then U.1 7 else 0)) (fun _ : Unit => moW G mo (mI U 2 (bI (!!decide (U.1 7 < 0)))) ++ X) := by
  refine mt_of hF (by decide) (Nat.le_of_ble_eq_true rfl) ?_
  intro p e s m below meth c C hin ls hl H locs hw
  have hl : lv_has ls 1 [(0, .ref (mo 0))] := hl
  refine lv_aload_n C.1 C.2.1 dX12_errorPosition_0 rfl (lv_at hl 0 rfl) ?_
  refine lv_aload_n C.1 C.2.1 dX12_errorPosition_1 rfl (lv_at hl 0 rfl) ?_
  refine r_get C hw 0 rfl rfl in_X12 13 (by decide) fl_X12_29 rfl (v := .int (U.1 7)) rfl dX12_errorPosition_2 ?_
  refine lv_if_lt (tgt := 12) C.1 C.2.1 dX12_errorPosition_5 (by decide) (fun c_5 => ?_) (fun c_5 => ?_)
  · refine lv_iconst (v := 0) C.1 C.2.1 dX12_errorPosition_12 (by decide) ?_
    refine r_vi C hw (k12_isThere hF (mo := mo) (U := U) (X := X) false) ml_X12_142 yf_X12_isThere 0 rfl rfl (As := [.int 0]) rfl rfl ⟨Nat.le_of_ble_eq_true rfl, Nat.le_of_ble_eq_true rfl⟩ ⟨Nat.le_of_ble_eq_true rfl, Nat.le_of_ble_eq_true rfl⟩ hl.1 (Nat.le_of_ble_eq_true rfl) dX12_errorPosition_13 (fun r_13 _ H locs hp_13 hw => ?_)
    obtain rfl : r_13 = bI false := hp_13
    replace hw : WH G s (moW G mo (mI U 2 (bI (!false))) ++ X) H locs := hw
    refine lv_if_eq (tgt := 26) C.1 C.2.1 dX12_errorPosition_16 (by decide) (fun c_16 => ?_) (fun c_16 => absurd (by decide) c_16)
    refine lv_iconst (v := 0) C.1 C.2.1 dX12_errorPosition_26 (by decide) ?_
    have hz : decide (U.1 7 < 0) = true := by simp [c_5]
    exact r_iret C hw rfl rfl () (by rw [hz]; rfl) (by rw [hz] <;> rfl) (Nat.le_of_ble_eq_true rfl) (Nat.le_of_ble_eq_true rfl) dX12_errorPosition_27
  · refine lv_iconst (v := 1) C.1 C.2.1 dX12_errorPosition_8 (by decide) ?_
    refine lv_goto (tgt := 13) C.1 C.2.1 dX12_errorPosition_9 (by decide) ?_
    refine r_vi C hw (k12_isThere hF (mo := mo) (U := U) (X := X) true) ml_X12_142 yf_X12_isThere 0 rfl rfl (As := [.int 1]) rfl rfl ⟨Nat.le_of_ble_eq_true rfl, Nat.le_of_ble_eq_true rfl⟩ ⟨Nat.le_of_ble_eq_true rfl, Nat.le_of_ble_eq_true rfl⟩ hl.1 (Nat.le_of_ble_eq_true rfl) dX12_errorPosition_13 (fun r_13 _ H locs hp_13 hw => ?_)
    obtain rfl : r_13 = bI true := hp_13
    replace hw : WH G s (moW G mo (mI U 2 (bI (!true))) ++ X) H locs := hw
    refine lv_if_eq (tgt := 26) C.1 C.2.1 dX12_errorPosition_16 (by decide) (fun c_16 => absurd c_16 (by decide)) (fun c_16 => ?_)
    refine lv_aload_n C.1 C.2.1 dX12_errorPosition_19 rfl (lv_at hl 0 rfl) ?_
    refine r_get C hw 0 rfl rfl in_X12 13 (by decide) fl_X12_29 rfl (v := .int (U.1 7)) rfl dX12_errorPosition_20 ?_
    refine lv_goto (tgt := 27) C.1 C.2.1 dX12_errorPosition_23 (by decide) ?_
    have hz : decide (U.1 7 < 0) = false := by simp [c_5]
    exact r_iret C hw rfl rfl () (by rw [hz]; rfl) (by rw [hz] <;> rfl) (Nat.le_of_ble_eq_true rfl) (Nat.le_of_ble_eq_true rfl) dX12_errorPosition_27

set_option maxHeartbeats 4000000 in
set_option maxRecDepth 100000 in
theorem k12_failedCommand {l : Launch} {G : Gx} (hF : SF l G) {mo : Nat → Nat} {U : MV_} {X : va_W} : MI l G yX12_failedCommand cX12_failedCommand 1 .int 3 0 0 [.ref (mo 0)] (moW G mo U ++ X) (fun r _ => r = (if (!decide (U.1 8 < 0)) = true then U.1 8 else 0)) (fun _ : Unit => moW G mo (mI U 2 (bI (!!decide (U.1 8 < 0)))) ++ X) := by
  refine mt_of hF (by decide) (Nat.le_of_ble_eq_true rfl) ?_
  intro p e s m below meth c C hin ls hl H locs hw
  have hl : lv_has ls 1 [(0, .ref (mo 0))] := hl
  refine lv_aload_n C.1 C.2.1 dX12_failedCommand_0 rfl (lv_at hl 0 rfl) ?_
  refine lv_aload_n C.1 C.2.1 dX12_failedCommand_1 rfl (lv_at hl 0 rfl) ?_
  refine r_get C hw 0 rfl rfl in_X12 14 (by decide) fl_X12_33 rfl (v := .int (U.1 8)) rfl dX12_failedCommand_2 ?_
  refine lv_if_lt (tgt := 12) C.1 C.2.1 dX12_failedCommand_5 (by decide) (fun c_5 => ?_) (fun c_5 => ?_)
  · refine lv_iconst (v := 0) C.1 C.2.1 dX12_failedCommand_12 (by decide) ?_
    refine r_vi C hw (k12_isThere hF (mo := mo) (U := U) (X := X) false) ml_X12_142 yf_X12_isThere 0 rfl rfl (As := [.int 0]) rfl rfl ⟨Nat.le_of_ble_eq_true rfl, Nat.le_of_ble_eq_true rfl⟩ ⟨Nat.le_of_ble_eq_true rfl, Nat.le_of_ble_eq_true rfl⟩ hl.1 (Nat.le_of_ble_eq_true rfl) dX12_failedCommand_13 (fun r_13 _ H locs hp_13 hw => ?_)
    obtain rfl : r_13 = bI false := hp_13
    replace hw : WH G s (moW G mo (mI U 2 (bI (!false))) ++ X) H locs := hw
    refine lv_if_eq (tgt := 26) C.1 C.2.1 dX12_failedCommand_16 (by decide) (fun c_16 => ?_) (fun c_16 => absurd (by decide) c_16)
    refine lv_iconst (v := 0) C.1 C.2.1 dX12_failedCommand_26 (by decide) ?_
    have hz : decide (U.1 8 < 0) = true := by simp [c_5]
    exact r_iret C hw rfl rfl () (by rw [hz]; rfl) (by rw [hz] <;> rfl) (Nat.le_of_ble_eq_true rfl) (Nat.le_of_ble_eq_true rfl) dX12_failedCommand_27
  · refine lv_iconst (v := 1) C.1 C.2.1 dX12_failedCommand_8 (by decide) ?_
    refine lv_goto (tgt := 13) C.1 C.2.1 dX12_failedCommand_9 (by decide) ?_
    refine r_vi C hw (k12_isThere hF (mo := mo) (U := U) (X := X) true) ml_X12_142 yf_X12_isThere 0 rfl rfl (As := [.int 1]) rfl rfl ⟨Nat.le_of_ble_eq_true rfl, Nat.le_of_ble_eq_true rfl⟩ ⟨Nat.le_of_ble_eq_true rfl, Nat.le_of_ble_eq_true rfl⟩ hl.1 (Nat.le_of_ble_eq_true rfl) dX12_failedCommand_13 (fun r_13 _ H locs hp_13 hw => ?_)
    obtain rfl : r_13 = bI true := hp_13
    replace hw : WH G s (moW G mo (mI U 2 (bI (!true))) ++ X) H locs := hw
    refine lv_if_eq (tgt := 26) C.1 C.2.1 dX12_failedCommand_16 (by decide) (fun c_16 => absurd c_16 (by decide)) (fun c_16 => ?_)
    refine lv_aload_n C.1 C.2.1 dX12_failedCommand_19 rfl (lv_at hl 0 rfl) ?_
    refine r_get C hw 0 rfl rfl in_X12 14 (by decide) fl_X12_33 rfl (v := .int (U.1 8)) rfl dX12_failedCommand_20 ?_
    refine lv_goto (tgt := 27) C.1 C.2.1 dX12_failedCommand_23 (by decide) ?_
    have hz : decide (U.1 8 < 0) = false := by simp [c_5]
    exact r_iret C hw rfl rfl () (by rw [hz]; rfl) (by rw [hz] <;> rfl) (Nat.le_of_ble_eq_true rfl) (Nat.le_of_ble_eq_true rfl) dX12_failedCommand_27

theorem inR_n40 {x : Int32} {n : Nat} (hn : n ≤ 40) (h : inR x 0 (nI n - 1) = true) : ∃ i, x = nI i ∧ i < n := by
  by_cases hz : n = 0
  · subst hz; exact inR_n (by omega) h
  · rw [nI_p1 (by omega)] at h
    obtain ⟨i, h1, h2, h3⟩ := inR_t (lo := 0) (hi := n - 1) (by omega) h (by omega)
    exact ⟨i, h1, by omega⟩

set_option maxHeartbeats 4000000 in
set_option maxRecDepth 100000 in
theorem k12_lineAt {l : Launch} {G : Gx} (hF : SF l G) {mo : Nat → Nat} {U : MV_} {X : va_W} {n : Nat} (hn1 : U.1 3 = nI n) (hn : n ≤ 40) (hch : ∀ j, isCh (U.2 4 j)) (x : Int32) : MI l G yX12_lineAt cX12_lineAt 2 .char 3 0 0 [.ref (mo 0), .int x] (moW G mo U ++ X) (fun r _ => r = (if inR x 0 (nI n - 1) = true then U.2 4 x.toNatClampNeg else 32)) (fun _ : Unit => moW G mo (mI U 2 (bI (!inR x 0 (nI n - 1)))) ++ X) := by
  refine mt_of hF (by decide) (Nat.le_of_ble_eq_true rfl) ?_
  intro p e s m below meth c C hin ls hl H locs hw
  have hl : lv_has ls 2 [(0, .ref (mo 0)), (1, .int x)] := hl
  refine lv_aload_n C.1 C.2.1 dX12_lineAt_0 rfl (lv_at hl 0 rfl) ?_
  refine lv_iload_n C.1 C.2.1 dX12_lineAt_1 rfl (lv_at hl 1 rfl) ?_
  refine lv_iconst (v := 0) C.1 C.2.1 dX12_lineAt_2 (by decide) ?_
  refine lv_aload_n C.1 C.2.1 dX12_lineAt_3 rfl (lv_at hl 0 rfl) ?_
  refine r_get C hw 0 rfl rfl in_X12 8 (by decide) fl_X12_165 rfl (v := .int (U.1 3)) rfl dX12_lineAt_4 ?_
  refine r_toe (show _ = nI n from hn1) ?_
  refine lv_iconst (v := 1) C.1 C.2.1 dX12_lineAt_7 (by decide) ?_
  refine lv_isub C.1 C.2.1 dX12_lineAt_8 ?_
  refine r_si C hw (k12_in hF (X := moW G mo U ++ X) x 0 ((nI n) - 1)) ml_X12_51 yf_X12_in (As := [.int x, .int 0, .int ((nI n) - 1)]) rfl rfl ⟨Nat.le_of_ble_eq_true rfl, Nat.le_of_ble_eq_true rfl⟩ ⟨Nat.le_of_ble_eq_true rfl, Nat.le_of_ble_eq_true rfl⟩ hl.1 (Nat.le_of_ble_eq_true rfl) dX12_lineAt_9 (fun r_9 _ H locs hp_9 hw => ?_)
  obtain rfl : r_9 = bI (inR x 0 ((nI n) - 1)) := hp_9
  replace hw : WH G s (moW G mo U ++ X) H locs := hw
  refine r_vi C hw (k12_isThere hF (mo := mo) (U := U) (X := X) (inR x 0 ((nI n) - 1))) ml_X12_142 yf_X12_isThere 0 rfl rfl (As := [.int (bI (inR x 0 ((nI n) - 1)))]) rfl rfl ⟨Nat.le_of_ble_eq_true rfl, Nat.le_of_ble_eq_true rfl⟩ ⟨Nat.le_of_ble_eq_true rfl, Nat.le_of_ble_eq_true rfl⟩ hl.1 (Nat.le_of_ble_eq_true rfl) dX12_lineAt_12 (fun r_12 _ H locs hp_12 hw => ?_)
  obtain rfl : r_12 = bI (inR x 0 ((nI n) - 1)) := hp_12
  replace hw : WH G s (moW G mo (mI U 2 (bI (!(inR x 0 ((nI n) - 1))))) ++ X) H locs := hw
  refine lv_if_eq (tgt := 27) C.1 C.2.1 dX12_lineAt_15 (by decide) (fun c_15 => ?_) (fun c_15 => ?_)
  · have b_15 := bI_eq0.mp c_15
    refine lv_bipush (v := 32) C.1 C.2.1 dX12_lineAt_27 (by decide) ?_
    exact r_iret C hw rfl rfl () (by rw [if_neg (by rw [b_15]; decide)]) rfl (Nat.le_of_ble_eq_true rfl) (Nat.le_of_ble_eq_true rfl) dX12_lineAt_29
  · have b_15 := bI_ne0.mp c_15
    obtain ⟨i, rfl, hi⟩ := inR_n40 hn b_15
    replace hl : lv_has ls 2 [(0, .ref (mo 0)), (1, .int (nI i))] := hl
    replace hw : WH G s (moW G mo (mI U 2 (bI (!inR (nI i) 0 (nI n - 1)))) ++ X) H locs := hw
    refine lv_aload_n C.1 C.2.1 dX12_lineAt_18 rfl (lv_at hl 0 rfl) ?_
    refine r_get C hw 0 rfl rfl in_X12 7 (by decide) fl_X12_22 rfl (v := .ref (mo 5)) rfl dX12_lineAt_19 ?_
    refine lv_iload_n C.1 C.2.1 dX12_lineAt_22 rfl (lv_at hl 1 rfl) ?_
    refine r_cald C hw 5 rfl (vp_in_nI (n := i) (by omega) (by decide)) dX12_lineAt_23 ?_
    refine r_toe (show _ = (U.2 4) i from congrArg (U.2 4) (nI_clamp (n := i) (by omega))) ?_
    refine lv_goto (tgt := 29) C.1 C.2.1 dX12_lineAt_24 (by decide) ?_
    exact r_iret C hw rfl (ch_n (hch _)) () (by rw [if_pos b_15, nI_clamp (by omega)]) rfl (Nat.le_of_ble_eq_true rfl) (Nat.le_of_ble_eq_true rfl) dX12_lineAt_29

set_option maxHeartbeats 4000000 in
set_option maxRecDepth 100000 in
theorem k12_type {l : Launch} {G : Gx} (hF : SF l G) {mo : Nat → Nat} {U : MV_} {X : va_W} {n : Nat} (hn1 : U.1 4 = nI n) (hn : n ≤ 60) (x : Int32) : MI l G yX12_type cX12_type 2 .int 1 0 0 [.ref (mo 0), .int x] (moW G mo U ++ X) (fun r _ => r = (tyM U x n).2) (fun _ : Unit => moW G mo ((tyM U x n).1) ++ X) := by
  refine mt_of hF (by decide) (Nat.le_of_ble_eq_true rfl) ?_
  intro p e s m below meth c C hin ls hl H locs hw
  have hl : lv_has ls 2 [(0, .ref (mo 0)), (1, .int x)] := hl
  refine lv_aload_n C.1 C.2.1 dX12_type_0 rfl (lv_at hl 0 rfl) ?_
  refine lv_iload_n C.1 C.2.1 dX12_type_1 rfl (lv_at hl 1 rfl) ?_
  refine lv_bipush (v := 32) C.1 C.2.1 dX12_type_2 (by decide) ?_
  refine lv_bipush (v := 126) C.1 C.2.1 dX12_type_4 (by decide) ?_
  refine r_si C hw (k12_in hF (X := moW G mo U ++ X) x 32 126) ml_X12_51 yf_X12_in (As := [.int x, .int 32, .int 126]) rfl rfl ⟨Nat.le_of_ble_eq_true rfl, Nat.le_of_ble_eq_true rfl⟩ ⟨Nat.le_of_ble_eq_true rfl, Nat.le_of_ble_eq_true rfl⟩ hl.1 (Nat.le_of_ble_eq_true rfl) dX12_type_6 (fun r_6 _ H locs hp_6 hw => ?_)
  obtain rfl : r_6 = bI (inR x 32 126) := hp_6
  replace hw : WH G s (moW G mo U ++ X) H locs := hw
  refine lv_if_ne (tgt := 16) C.1 C.2.1 dX12_type_9 (by decide) (fun c_9 => ?_) (fun c_9 => ?_)
  · have b_9 := bI_ne0.mp c_9
    refine lv_aload_n C.1 C.2.1 dX12_type_16 rfl (lv_at hl 0 rfl) ?_
    refine r_get C hw 0 rfl rfl in_X12 10 (by decide) fl_X12_182 rfl (v := .int (U.1 4)) rfl dX12_type_17 ?_
    refine r_toe (show _ = nI n from hn1) ?_
    refine lv_bipush (v := 60) C.1 C.2.1 dX12_type_20 (by decide) ?_
    refine lv_icmp_ne (tgt := 29) C.1 C.2.1 dX12_type_22 (by decide) (fun c_22 => ?_) (fun c_22 => ?_)
    · have hz : ¬ n = 60 := fun q => c_22 (by rw [q]; rfl)
      refine lv_iconst (v := 0) C.1 C.2.1 dX12_type_29 (by decide) ?_
      refine r_put C hw 0 rfl rfl in_X12 tyX12 tyX12_ok nmX12 6 (by decide) fl_X12_39 rfl rfl rfl rfl (Nat.le_of_ble_eq_true rfl) (w' := moW G mo (mI U 2 0) ++ X) rfl dX12_type_30 (fun H locs hw => ?_)
      refine lv_aload_n C.1 C.2.1 dX12_type_33 rfl (lv_at hl 0 rfl) ?_
      refine r_get C hw 0 rfl rfl in_X12 6 (by decide) fl_X12_39 rfl (v := .int 0) rfl dX12_type_34 ?_
      refine lv_if_le (tgt := 42) C.1 C.2.1 dX12_type_37 (by decide) (fun c_37 => ?_) (fun c_37 => absurd (by decide) c_37)
      refine lv_aload_n C.1 C.2.1 dX12_type_42 rfl (lv_at hl 0 rfl) ?_
      refine r_get C hw 0 rfl rfl in_X12 9 (by decide) fl_X12_26 rfl (v := .ref (mo 6)) rfl dX12_type_43 ?_
      refine lv_aload_n C.1 C.2.1 dX12_type_46 rfl (lv_at hl 0 rfl) ?_
      refine r_get C hw 0 rfl rfl in_X12 10 (by decide) fl_X12_182 rfl (v := .int (U.1 4)) rfl dX12_type_47 ?_
      refine r_toe (show _ = nI n from hn1) ?_
      refine lv_iload_n C.1 C.2.1 dX12_type_50 rfl (lv_at hl 1 rfl) ?_
      refine r_cast C hw 6 rfl (vp_in_nI (n := n) (by omega) (by decide)) (w' := moW G mo (mR (mI U 2 0) 5 (upd (U.2 5) n (vp_nar .char x))) ++ X) (by rw [show (nI n).toNatClampNeg = n from nI_clamp (by omega)]; rfl) dX12_type_51 (fun H locs hw => ?_)
      refine lv_aload_n C.1 C.2.1 dX12_type_52 rfl (lv_at hl 0 rfl) ?_
      refine lv_dup C.1 C.2.1 dX12_type_53 rfl ?_
      refine r_get C hw 0 rfl rfl in_X12 10 (by decide) fl_X12_182 rfl (v := .int (U.1 4)) rfl dX12_type_54 ?_
      refine r_toe (show _ = nI n from hn1) ?_
      refine lv_iconst (v := 1) C.1 C.2.1 dX12_type_57 (by decide) ?_
      refine lv_iadd C.1 C.2.1 dX12_type_58 ?_
      refine r_toe (nI_add n 1) ?_
      refine r_put C hw 0 rfl rfl in_X12 tyX12 tyX12_ok nmX12 10 (by decide) fl_X12_182 rfl rfl rfl rfl (Nat.le_of_ble_eq_true rfl) (w' := moW G mo (mI (mR (mI U 2 0) 5 (upd (U.2 5) n (vp_nar .char x))) 4 (nI (n + 1))) ++ X) rfl dX12_type_59 (fun H locs hw => ?_)
      refine lv_aload_n C.1 C.2.1 dX12_type_62 rfl (lv_at hl 0 rfl) ?_
      refine r_get C hw 0 rfl rfl in_X12 10 (by decide) fl_X12_182 rfl (v := .int (nI (n + 1))) rfl dX12_type_63 ?_
      exact r_iret C hw rfl rfl () (by rw [tyM, if_neg (by rw [b_9]; decide), if_neg hz]) (by rw [tyM, if_neg (by rw [b_9]; decide), if_neg hz] <;> rfl) (Nat.le_of_ble_eq_true rfl) (Nat.le_of_ble_eq_true rfl) dX12_type_66
    · have hz : n = 60 := (nI_eq (b := 60) (by omega) (by decide)).mp c_22
      refine lv_iconst (v := 2) C.1 C.2.1 dX12_type_25 (by decide) ?_
      refine lv_goto (tgt := 30) C.1 C.2.1 dX12_type_26 (by decide) ?_
      refine r_put C hw 0 rfl rfl in_X12 tyX12 tyX12_ok nmX12 6 (by decide) fl_X12_39 rfl rfl rfl rfl (Nat.le_of_ble_eq_true rfl) (w' := moW G mo (mI U 2 2) ++ X) rfl dX12_type_30 (fun H locs hw => ?_)
      refine lv_aload_n C.1 C.2.1 dX12_type_33 rfl (lv_at hl 0 rfl) ?_
      refine r_get C hw 0 rfl rfl in_X12 6 (by decide) fl_X12_39 rfl (v := .int 2) rfl dX12_type_34 ?_
      refine lv_if_le (tgt := 42) C.1 C.2.1 dX12_type_37 (by decide) (fun c_37 => absurd c_37 (by decide)) (fun c_37 => ?_)
      refine lv_iconst (v := 0) C.1 C.2.1 dX12_type_40 (by decide) ?_
      exact r_iret C hw rfl rfl () (by rw [tyM, if_neg (by rw [b_9]; decide), if_pos hz]) (by rw [tyM, if_neg (by rw [b_9]; decide), if_pos hz]) (Nat.le_of_ble_eq_true rfl) (Nat.le_of_ble_eq_true rfl) dX12_type_41
  · have b_9 := bI_eq0.mp c_9
    refine lv_iconst (v := 1) C.1 C.2.1 dX12_type_12 (by decide) ?_
    refine lv_goto (tgt := 30) C.1 C.2.1 dX12_type_13 (by decide) ?_
    refine r_put C hw 0 rfl rfl in_X12 tyX12 tyX12_ok nmX12 6 (by decide) fl_X12_39 rfl rfl rfl rfl (Nat.le_of_ble_eq_true rfl) (w' := moW G mo (mI U 2 1) ++ X) rfl dX12_type_30 (fun H locs hw => ?_)
    refine lv_aload_n C.1 C.2.1 dX12_type_33 rfl (lv_at hl 0 rfl) ?_
    refine r_get C hw 0 rfl rfl in_X12 6 (by decide) fl_X12_39 rfl (v := .int 1) rfl dX12_type_34 ?_
    refine lv_if_le (tgt := 42) C.1 C.2.1 dX12_type_37 (by decide) (fun c_37 => absurd c_37 (by decide)) (fun c_37 => ?_)
    refine lv_iconst (v := 0) C.1 C.2.1 dX12_type_40 (by decide) ?_
    exact r_iret C hw rfl rfl () (by rw [tyM, if_pos b_9]) (by rw [tyM, if_pos b_9]) (Nat.le_of_ble_eq_true rfl) (Nat.le_of_ble_eq_true rfl) dX12_type_41

set_option maxHeartbeats 4000000 in
set_option maxRecDepth 100000 in
theorem k12_says {l : Launch} {G : Gx} (hF : SF l G) {mo : Nat → Nat} {U : MV_} {X : va_W} {k : Nat} (hk1 : U.1 3 = nI k) (hk : k < 40) (x : Int32) : MV l G yX12_says cX12_says 2 0 0 0 [.ref (mo 0), .int x] (moW G mo U ++ X) (fun _ => True) (fun _ : Unit => moW G mo (syU U k [x]) ++ X) := by
  refine mt_of hF (by decide) (Nat.le_of_ble_eq_true rfl) ?_
  intro p e s m below meth c C hin ls hl H locs hw
  have hl : lv_has ls 2 [(0, .ref (mo 0)), (1, .int x)] := hl
  refine lv_aload_n C.1 C.2.1 dX12_says_0 rfl (lv_at hl 0 rfl) ?_
  refine r_get C hw 0 rfl rfl in_X12 7 (by decide) fl_X12_22 rfl (v := .ref (mo 5)) rfl dX12_says_1 ?_
  refine lv_aload_n C.1 C.2.1 dX12_says_4 rfl (lv_at hl 0 rfl) ?_
  refine r_get C hw 0 rfl rfl in_X12 8 (by decide) fl_X12_165 rfl (v := .int (U.1 3)) rfl dX12_says_5 ?_
  refine r_toe (show _ = nI k from hk1) ?_
  refine lv_iload_n C.1 C.2.1 dX12_says_8 rfl (lv_at hl 1 rfl) ?_
  refine r_cast C hw 5 rfl (vp_in_nI (n := k) (by omega) (by decide)) (w' := moW G mo (mR U 4 (upd (U.2 4) k (vp_nar .char x))) ++ X) (by rw [show (nI k).toNatClampNeg = k from nI_clamp (by omega)]; rfl) dX12_says_9 (fun H locs hw => ?_)
  refine lv_aload_n C.1 C.2.1 dX12_says_10 rfl (lv_at hl 0 rfl) ?_
  refine lv_dup C.1 C.2.1 dX12_says_11 rfl ?_
  refine r_get C hw 0 rfl rfl in_X12 8 (by decide) fl_X12_165 rfl (v := .int (U.1 3)) rfl dX12_says_12 ?_
  refine r_toe (show _ = nI k from hk1) ?_
  refine lv_iconst (v := 1) C.1 C.2.1 dX12_says_15 (by decide) ?_
  refine lv_iadd C.1 C.2.1 dX12_says_16 ?_
  refine r_toe (nI_add k 1) ?_
  refine r_put C hw 0 rfl rfl in_X12 tyX12 tyX12_ok nmX12 8 (by decide) fl_X12_165 rfl rfl rfl rfl (Nat.le_of_ble_eq_true rfl) (w' := moW G mo (mI (mR U 4 (upd (U.2 4) k (vp_nar .char x))) 3 (nI (k + 1))) ++ X) rfl dX12_says_17 (fun H locs hw => ?_)
  exact r_vret C hw rfl () (trivial) rfl (Nat.le_of_ble_eq_true rfl) (Nat.le_of_ble_eq_true rfl) dX12_says_20

