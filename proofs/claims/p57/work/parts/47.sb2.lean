/-! A StringBuilder: room, signs, numbers -/
def mOk (cp : Nat) : Prop := cp = 16 ∨ cp = 34 ∨ cp = 70
theorem mOk_s {cp q : Nat} (h : mOk cp) (h1 : q ≤ 70) (h2 : q ≤ cp + 5) : cp ≤ 70 ∧ (cp < q → mOk (2 * cp + 2) ∧ q ≤ 2 * cp + 2 ∧ 2 * cp + 2 ≤ 70) := by
  rcases h with h | h | h
  · exact ⟨by omega, fun _ => ⟨Or.inr (Or.inl (by omega)), by omega, by omega⟩⟩
  · exact ⟨by omega, fun _ => ⟨Or.inr (Or.inr (by omega)), by omega, by omega⟩⟩
  · exact ⟨by omega, fun _ => by omega⟩
theorem mOk_le {cp : Nat} (h : mOk cp) : cp ≤ 70 ∧ 16 ≤ cp := by rcases h with h | h | h <;> omega

set_option maxHeartbeats 4000000 in
set_option maxRecDepth 100000 in
theorem j5_ensure {l : Launch} {G : Gx} (hF : SF l G) {X : va_W} {b v cp n : Nat} {f : Nat → Int32} {mb : Int32} {q : Nat} (hm : mOk cp) (hf : sb_Fit f) (h1 : q ≤ 70) (h2 : q ≤ cp + 5) : MV l G yJ5_ensureCapacityInternal_d00df cJ5_ensureCapacityInternal_d00df 3 3 1 70 [.ref b, .int (nI q)] (sbW G b v cp f mb (nI n) ++ X) (fun u => mOk u.2.1 ∧ q ≤ u.2.1 ∧ cp ≤ u.2.1 ∧ sb_Fit u.2.2 ∧ ∀ j, j < cp → u.2.2 j = f j) (fun u : Nat × Nat × (Nat → Int32) => sbW G b u.1 u.2.1 u.2.2 mb (nI n) ++ X) := by
  refine mt_of hF (by decide) (Nat.le_of_ble_eq_true rfl) ?_
  intro p e s m below meth c C hin ls hl H locs hw
  have hl : lv_has ls 3 [(0, .ref b), (1, .int (nI q))] := hl
  have hmm := mOk_s hm h1 h2
  refine lv_aload_n C.1 C.2.1 dJ5_ensureCapacityInternal_d00df_0 rfl (lv_at hl 0 rfl) ?_
  refine r_get C hw 0 rfl rfl in_J4 0 (by decide) fl_J5_15 rfl (v := .ref v) rfl dJ5_ensureCapacityInternal_d00df_1 ?_
  refine r_alen C hw 1 1 rfl rfl dJ5_ensureCapacityInternal_d00df_4 ?_
  refine lv_aload_n C.1 C.2.1 dJ5_ensureCapacityInternal_d00df_5 rfl (lv_at hl 0 rfl) ?_
  refine r_get C hw 0 rfl rfl in_J4 1 (by decide) fl_J5_22 rfl (v := .int 0) rfl dJ5_ensureCapacityInternal_d00df_6 ?_
  refine lv_ishr C.1 C.2.1 dJ5_ensureCapacityInternal_d00df_9 ?_
  refine r_toe (sb_shr0 (nI cp)) ?_
  refine lv_istore_n (lv' := [(2, .int (nI cp)), (0, .ref b), (1, .int (nI q))]) C.1 C.2.1 dJ5_ensureCapacityInternal_d00df_10 rfl hl (by decide) rfl (fun ls hl => ?_)
  refine lv_iload_n C.1 C.2.1 dJ5_ensureCapacityInternal_d00df_11 rfl (lv_at hl 2 rfl) ?_
  refine lv_iload_n C.1 C.2.1 dJ5_ensureCapacityInternal_d00df_12 rfl (lv_at hl 0 rfl) ?_
  refine lv_isub C.1 C.2.1 dJ5_ensureCapacityInternal_d00df_13 ?_
  refine lv_if_le (tgt := 38) C.1 C.2.1 dJ5_ensureCapacityInternal_d00df_14 (by decide) (fun c_14 => ?_) (fun c_14 => ?_)
  · have hz : q ≤ cp := (le_sub (by omega) (by omega)).mp c_14
    exact r_vret C hw rfl (v, cp, f) (⟨hm, hz, Nat.le_refl _, hf, fun _ _ => rfl⟩) rfl (Nat.le_of_ble_eq_true rfl) (Nat.le_of_ble_eq_true rfl) dJ5_ensureCapacityInternal_d00df_38
  · have hz : cp < q := by have := mt (le_sub (a := q) (b := cp) (by omega) (by omega)).mpr c_14; omega
    have hz2 := hmm.2 hz
    refine lv_aload_n C.1 C.2.1 dJ5_ensureCapacityInternal_d00df_17 rfl (lv_at hl 1 rfl) ?_
    refine lv_aload_n C.1 C.2.1 dJ5_ensureCapacityInternal_d00df_18 rfl (lv_at hl 1 rfl) ?_
    refine r_get C hw 0 rfl rfl in_J4 0 (by decide) fl_J5_15 rfl (v := .ref v) rfl dJ5_ensureCapacityInternal_d00df_19 ?_
    refine lv_aload_n C.1 C.2.1 dJ5_ensureCapacityInternal_d00df_22 rfl (lv_at hl 1 rfl) ?_
    refine lv_iload_n C.1 C.2.1 dJ5_ensureCapacityInternal_d00df_23 rfl (lv_at hl 2 rfl) ?_
    refine r_ui C hw (j5_newCapacity hF (X := X) (b := b) (v := v) (cp := cp) (n := n) (f := f) (mb := mb) (q := q) hz hz2.2.1 (by omega)) ml_J5_104 yf_J5_newCapacity_0f7a4 (C.selP rfl pv_J5_newCapacity_0f7a4 yf_J5_newCapacity_0f7a4.1.1) 0 rfl (As := [.int (nI q)]) rfl rfl ⟨(Nat.le_of_ble_eq_true rfl), (Nat.le_of_ble_eq_true rfl)⟩ ⟨(Nat.le_of_ble_eq_true rfl), (Nat.le_of_ble_eq_true rfl)⟩ hl.1 (Nat.le_of_ble_eq_true rfl) dJ5_ensureCapacityInternal_d00df_24 (fun r_24 _ H locs hp_24 hw => ?_)
    obtain rfl : r_24 = nI (2 * cp + 2) := hp_24
    replace hw : WH G s (sbW G b v cp f mb (nI n) ++ X) H locs := hw
    refine lv_aload_n C.1 C.2.1 dJ5_ensureCapacityInternal_d00df_27 rfl (lv_at hl 1 rfl) ?_
    refine r_get C hw 0 rfl rfl in_J4 1 (by decide) fl_J5_22 rfl (v := .int 0) rfl dJ5_ensureCapacityInternal_d00df_28 ?_
    refine lv_ishl C.1 C.2.1 dJ5_ensureCapacityInternal_d00df_31 ?_
    refine r_toe (sb_shl0 (nI (2 * cp + 2))) ?_
    refine r_sr C hw (j7_copyOf hF (w0 := sbW G b v cp f mb (nI n) ++ X) (v := v) (cp := cp) (q := 2 * cp + 2) (f := f) 1 rfl (by omega) (by omega) hf) ml_J5_108 yf_J7_copyOf_9075b (As := [.ref v, .int (nI (2 * cp + 2))]) rfl rfl ⟨(Nat.le_of_ble_eq_true rfl), (Nat.le_of_ble_eq_true rfl)⟩ ⟨(Nat.le_of_ble_eq_true rfl), (Nat.le_of_ble_eq_true rfl)⟩ hl.1 (Nat.le_of_ble_eq_true rfl) dJ5_ensureCapacityInternal_d00df_32 (fun _ qn H locs hp_32 hw => ?_)
    refine r_put C hw 1 rfl rfl in_J4 tyJ4 tyJ4_ok nmJ4 0 (by decide) fl_J5_15 rfl rfl rfl rfl (Nat.le_of_ble_eq_true rfl) (w' := (qn, .inl (G.2.2.1 1, 2 * cp + 2, .inl (va_cpy f (fun _ => 0) 0 0 cp))) :: (b, .inr (1, [.ref qn, .int 0, .int mb, .int (nI n)])) :: (v, .inl (G.2.2.1 1, cp, .inl f)) :: X) rfl dJ5_ensureCapacityInternal_d00df_35 (fun H locs hw => ?_)
    have hw2 : WH G s (sbW G b qn (2 * cp + 2) (va_cpy f (fun _ => 0) 0 0 cp) mb (nI n) ++ X) H locs := (hw.fewer (List.Sublist.cons_cons _ (List.Sublist.cons_cons _ (List.Sublist.cons _ (List.Sublist.refl _))))).perm (List.Perm.swap _ _ _)
    exact r_vret C hw2 rfl (qn, 2 * cp + 2, (va_cpy f (fun _ => 0) 0 0 cp)) ⟨hz2.1, hz2.2.1, by show cp ≤ 2 * cp + 2; omega, sb_fitC hf sb_fit0, fun j hj => by show va_cpy f (fun _ => 0) 0 0 cp j = f j; exact sb_cpy0 hj⟩ rfl (Nat.le_of_ble_eq_true rfl) (Nat.le_of_ble_eq_true rfl) dJ5_ensureCapacityInternal_d00df_38

set_option maxHeartbeats 4000000 in
set_option maxRecDepth 100000 in
theorem j1_canEncode {l : Launch} {G : Gx} (hF : SF l G) {X : va_W} {k : Nat} (hk : k < 128) : MI l G yJ1_canEncode_fc78d cJ1_canEncode_fc78d 1 .boolean 0 0 0 [.int (nI k)] X (fun r (_ : Unit) => r = 1) (fun _ => X) := by
  refine mt_of hF (by decide) (Nat.le_of_ble_eq_true rfl) ?_
  intro p e s m below meth c C hin ls hl H locs hw
  have hl : lv_has ls 1 [(0, .int (nI k))] := hl
  refine lv_iload_n C.1 C.2.1 dJ1_canEncode_fc78d_0 rfl (lv_at hl 0 rfl) ?_
  refine lv_sipush (v := 255) C.1 C.2.1 dJ1_canEncode_fc78d_1 (by decide) ?_
  refine lv_icmp_gt (tgt := 11) C.1 C.2.1 dJ1_canEncode_fc78d_4 (by decide) (fun c_4 => absurd c_4 ((nI_nlt (a := 255) (by omega) (by decide)))) (fun c_4 => ?_)
  refine lv_iconst (v := 1) C.1 C.2.1 dJ1_canEncode_fc78d_7 (by decide) ?_
  refine lv_goto (tgt := 12) C.1 C.2.1 dJ1_canEncode_fc78d_8 (by decide) ?_
  exact r_iret C hw rfl rfl () (rfl) rfl (Nat.le_of_ble_eq_true rfl) (Nat.le_of_ble_eq_true rfl) dJ1_canEncode_fc78d_12

set_option maxHeartbeats 4000000 in
set_option maxRecDepth 100000 in
theorem j5_appendC {l : Launch} {G : Gx} (hF : SF l G) {X : va_W} {b v cp n : Nat} {f : Nat → Int32} {mb : Int32} (hm : mOk cp) (hf : sb_Fit f) {k : Nat} (hk : k < 128) (hn : n ≤ cp) (h1 : n + 1 ≤ 70) : MR l G yJ5_append_3fe6f cJ5_append_3fe6f 2 (.object "java/lang/AbstractStringBuilder") 4 1 70 [.ref b, .int (nI k)] (sbW G b v cp f mb (nI n) ++ X) (fun u => mOk u.2.1 ∧ n + 1 ≤ u.2.1 ∧ sb_Fit u.2.2 ∧ (∀ j, j < n → u.2.2 j = f j) ∧ u.2.2 n = nI k) (fun (u : Nat × Nat × (Nat → Int32)) _ => sbW G b u.1 u.2.1 u.2.2 mb (nI (n + 1)) ++ X) := by
  refine mt_of hF (by decide) (Nat.le_of_ble_eq_true rfl) ?_
  intro p e s m below meth c C hin ls hl H locs hw
  have hl : lv_has ls 2 [(0, .ref b), (1, .int (nI k))] := hl
  have hml := mOk_le hm
  refine lv_aload_n C.1 C.2.1 dJ5_append_3fe6f_0 rfl (lv_at hl 0 rfl) ?_
  refine lv_aload_n C.1 C.2.1 dJ5_append_3fe6f_1 rfl (lv_at hl 0 rfl) ?_
  refine r_get C hw 0 rfl rfl in_J4 3 (by decide) fl_J5_79 rfl (v := .int (nI n)) rfl dJ5_append_3fe6f_2 ?_
  refine lv_iconst (v := 1) C.1 C.2.1 dJ5_append_3fe6f_5 (by decide) ?_
  refine lv_iadd C.1 C.2.1 dJ5_append_3fe6f_6 ?_
  refine r_toe (show _ = nI (n + 1) from nI_add n 1) ?_
  refine r_uv C hw (j5_ensure hF (X := X) (b := b) (v := v) (cp := cp) (n := n) (f := f) (mb := mb) (q := n + 1) hm hf h1 (by omega)) ml_J5_100 yf_J5_ensureCapacityInternal_d00df (C.selP rfl pv_J5_ensureCapacityInternal_d00df yf_J5_ensureCapacityInternal_d00df.1.1) 0 rfl (As := [.int (nI (n + 1))]) rfl rfl ⟨(Nat.le_of_ble_eq_true rfl), (Nat.le_of_ble_eq_true rfl)⟩ ⟨(Nat.le_of_ble_eq_true rfl), (Nat.le_of_ble_eq_true rfl)⟩ hl.1 (Nat.le_of_ble_eq_true rfl) dJ5_append_3fe6f_7 (fun u_7 H locs hp_7 hw => ?_)
  obtain ⟨hu1, hu2, hu3, hu4, hu5⟩ := hp_7
  have hmu := mOk_le hu1
  replace hw : WH G s (sbW G b u_7.1 u_7.2.1 u_7.2.2 mb (nI n) ++ X) H locs := hw
  refine lv_aload_n C.1 C.2.1 dJ5_append_3fe6f_10 rfl (lv_at hl 0 rfl) ?_
  refine r_ui C hw (j5_isLatin1 hF (X := X) (b := b) (v := u_7.1) (cp := u_7.2.1) (n := n) (f := u_7.2.2) (mb := mb)) ml_J5_83 yf_J5_isLatin1_aae02 (C.2.2.2.2.2.1 _ sel_J4) 0 rfl (As := []) rfl rfl ⟨(Nat.le_of_ble_eq_true rfl), (Nat.le_of_ble_eq_true rfl)⟩ ⟨(Nat.le_of_ble_eq_true rfl), (Nat.le_of_ble_eq_true rfl)⟩ hl.1 (Nat.le_of_ble_eq_true rfl) dJ5_append_3fe6f_11 (fun r_11 _ H locs hp_11 hw => ?_)
  obtain rfl : r_11 = 1 := hp_11
  replace hw : WH G s (sbW G b u_7.1 u_7.2.1 u_7.2.2 mb (nI n) ++ X) H locs := hw
  refine lv_if_eq (tgt := 45) C.1 C.2.1 dJ5_append_3fe6f_14 (by decide) (fun c_14 => absurd c_14 (by decide)) (fun c_14 => ?_)
  refine lv_iload_n C.1 C.2.1 dJ5_append_3fe6f_17 rfl (lv_at hl 1 rfl) ?_
  refine r_si C hw (j1_canEncode hF (X := sbW G b u_7.1 u_7.2.1 u_7.2.2 mb (nI n) ++ X) (k := k) hk) ml_J5_191 yf_J1_canEncode_fc78d (As := [.int (nI k)]) rfl rfl ⟨(Nat.le_of_ble_eq_true rfl), (Nat.le_of_ble_eq_true rfl)⟩ ⟨(Nat.le_of_ble_eq_true rfl), (Nat.le_of_ble_eq_true rfl)⟩ hl.1 (Nat.le_of_ble_eq_true rfl) dJ5_append_3fe6f_18 (fun r_18 _ H locs hp_18 hw => ?_)
  obtain rfl : r_18 = 1 := hp_18
  replace hw : WH G s (sbW G b u_7.1 u_7.2.1 u_7.2.2 mb (nI n) ++ X) H locs := hw
  refine lv_if_eq (tgt := 45) C.1 C.2.1 dJ5_append_3fe6f_21 (by decide) (fun c_21 => absurd c_21 (by decide)) (fun c_21 => ?_)
  refine lv_aload_n C.1 C.2.1 dJ5_append_3fe6f_24 rfl (lv_at hl 0 rfl) ?_
  refine r_get C hw 0 rfl rfl in_J4 0 (by decide) fl_J5_15 rfl (v := .ref u_7.1) rfl dJ5_append_3fe6f_25 ?_
  refine lv_aload_n C.1 C.2.1 dJ5_append_3fe6f_28 rfl (lv_at hl 0 rfl) ?_
  refine lv_dup C.1 C.2.1 dJ5_append_3fe6f_29 rfl ?_
  refine r_get C hw 0 rfl rfl in_J4 3 (by decide) fl_J5_79 rfl (v := .int (nI n)) rfl dJ5_append_3fe6f_30 ?_
  refine lv_dup_x1 C.1 C.2.1 dJ5_append_3fe6f_33 rfl rfl ?_
  refine lv_iconst (v := 1) C.1 C.2.1 dJ5_append_3fe6f_34 (by decide) ?_
  refine lv_iadd C.1 C.2.1 dJ5_append_3fe6f_35 ?_
  refine r_toe (show _ = nI (n + 1) from nI_add n 1) ?_
  refine r_put C hw 0 rfl rfl in_J4 tyJ4 tyJ4_ok nmJ4 3 (by decide) fl_J5_79 rfl rfl rfl rfl (Nat.le_of_ble_eq_true rfl) (w' := sbW G b u_7.1 u_7.2.1 u_7.2.2 mb (nI (n + 1)) ++ X) rfl dJ5_append_3fe6f_36 (fun H locs hw => ?_)
  refine lv_iload_n C.1 C.2.1 dJ5_append_3fe6f_39 rfl (lv_at hl 1 rfl) ?_
  refine lv_i2b (v := (nI k).toInt8.toInt32) C.1 C.2.1 dJ5_append_3fe6f_40 rfl ?_
  refine r_bast C hw 1 rfl (vp_in_nI (n := n) (by omega) (by omega)) (w' := sbW G b u_7.1 u_7.2.1 (upd u_7.2.2 n (nI k)) mb (nI (n + 1)) ++ X) (by rw [show (nI n).toNatClampNeg = n from nI_clamp (by omega), show vp_nar .byte ((nI k).toInt8.toInt32) = (nI k) from vb_i2b hk]; rfl) dJ5_append_3fe6f_41 (fun H locs hw => ?_)
  refine lv_goto (tgt := 75) C.1 C.2.1 dJ5_append_3fe6f_42 (by decide) ?_
  refine lv_aload_n C.1 C.2.1 dJ5_append_3fe6f_75 rfl (lv_at hl 0 rfl) ?_
  exact r_rret C hw rfl (Or.inl ⟨_, rfl⟩) (u_7.1, u_7.2.1, upd u_7.2.2 n (nI k)) (⟨hu1, hu2, sb_fitU hu4 (fb_nI hk), fun j hj => by show upd u_7.2.2 n (nI k) j = f j; rw [pk_un (by omega)]; exact hu5 j (by omega), pk_us⟩) rfl (Nat.le_of_ble_eq_true rfl) (Nat.le_of_ble_eq_true rfl) dJ5_append_3fe6f_76

