/-! Texts appended, texts made -/
theorem mOk_18 {cp q : Nat} (h : mOk cp) (h1 : q ≤ 70) (h2 : q ≤ cp + 18) : cp ≤ 70 ∧ (cp < q → mOk (2 * cp + 2) ∧ q ≤ 2 * cp + 2 ∧ 2 * cp + 2 ≤ 70) := by
  rcases h with h | h | h
  · exact ⟨by omega, fun _ => ⟨Or.inr (Or.inl (by omega)), by omega, by omega⟩⟩
  · exact ⟨by omega, fun _ => ⟨Or.inr (Or.inr (by omega)), by omega, by omega⟩⟩
  · exact ⟨by omega, fun _ => by omega⟩
set_option maxHeartbeats 4000000 in
set_option maxRecDepth 100000 in
theorem j5_ensure18 {l : Launch} {G : Gx} (hF : SF l G) {X : va_W} {b v cp n : Nat} {f : Nat → Int32} {mb : Int32} {q : Nat} (hm : mOk cp) (hf : sb_Fit f) (h1 : q ≤ 70) (h2 : q ≤ cp + 18) : MV l G yJ5_ensureCapacityInternal_d00df cJ5_ensureCapacityInternal_d00df 3 3 1 70 [.ref b, .int (nI q)] (sbW G b v cp f mb (nI n) ++ X) (fun u => mOk u.2.1 ∧ q ≤ u.2.1 ∧ cp ≤ u.2.1 ∧ sb_Fit u.2.2 ∧ ∀ j, j < cp → u.2.2 j = f j) (fun u : Nat × Nat × (Nat → Int32) => sbW G b u.1 u.2.1 u.2.2 mb (nI n) ++ X) := by
  refine mt_of hF (by decide) (Nat.le_of_ble_eq_true rfl) ?_
  intro p e s m below meth c C hin ls hl H locs hw
  have hl : lv_has ls 3 [(0, .ref b), (1, .int (nI q))] := hl
  have hmm := mOk_18 hm h1 h2
  refine lv_aload_n C.1 C.2.1 dJ5_ensureCapacityInternal_d00df_0 rfl (lv_at hl 0 rfl) ?_
  refine r_get C hw 0 rfl rfl in_J4 0 (by decide) fl_J5_15 rfl (v := .ref v) rfl dJ5_ensureCapacityInternal_d00df_1 ?_
  refine r_alen C hw 1 1 rfl rfl dJ5_ensureCapacityInternal_d00df_4 ?_
  refine lv_aload_n C.1 C.2.1 dJ5_ensureCapacityInternal_d00df_5 rfl (lv_at hl 0 rfl) ?_
  refine r_get C hw 0 rfl rfl in_J4 1 (by decide) fl_J5_22 rfl (v := .int 0) rfl dJ5_ensureCapacityInternal_d00df_6 ?_
  refine lv_ishr C.1 C.2.1 dJ5_ensureCapacityInternal_d00df_9 ?_
  refine r_toe (sb_shr0 (nI cp)) ?_
  refine lv_istore_n (lv' := [(2, .int (nI cp)), (0, .ref b), (1, .int (nI q))]) C.1 C.2.1 dJ5_ensureCapacityInternal_d00df_10 rfl hl (by decide) rfl (fun ls hl => ?_)
  refine lv_iload_n C.1 C.2.1 dJ5_ensureCapacityInternal_d00df_11 rfl (lv_at hl 2 rfl) ?_
  refine lv_iload_n C.1 C.2.1 dJ5_ensureCapacityInternal_d00df_12 rfl (lv_at hl 0 rfl) ?_
  refine lv_isub C.1 C.2.1 dJ5_ensureCapacityInternal_d00df_13 ?_
  refine lv_if_le (tgt := 38) C.1 C.2.1 dJ5_ensureCapacityInternal_d00df_14 (by decide) (fun c_14 => ?_) (fun c_14 => ?_)
  · have hz : q ≤ cp := (le_sub (by omega) (by omega)).mp c_14
    exact r_vret C hw rfl (v, cp, f) (⟨hm, hz, Nat.le_refl _, hf, fun _ _ => rfl⟩) rfl (Nat.le_of_ble_eq_true rfl) (Nat.le_of_ble_eq_true rfl) dJ5_ensureCapacityInternal_d00df_38
  · have hz : cp < q := by have := mt (le_sub (a := q) (b := cp) (by omega) (by omega)).mpr c_14; omega
    have hz2 := hmm.2 hz
    refine lv_aload_n C.1 C.2.1 dJ5_ensureCapacityInternal_d00df_17 rfl (lv_at hl 1 rfl) ?_
    refine lv_aload_n C.1 C.2.1 dJ5_ensureCapacityInternal_d00df_18 rfl (lv_at hl 1 rfl) ?_
    refine r_get C hw 0 rfl rfl in_J4 0 (by decide) fl_J5_15 rfl (v := .ref v) rfl dJ5_ensureCapacityInternal_d00df_19 ?_
    refine lv_aload_n C.1 C.2.1 dJ5_ensureCapacityInternal_d00df_22 rfl (lv_at hl 1 rfl) ?_
    refine lv_iload_n C.1 C.2.1 dJ5_ensureCapacityInternal_d00df_23 rfl (lv_at hl 2 rfl) ?_
    refine r_ui C hw (j5_newCapacity hF (X := X) (b := b) (v := v) (cp := cp) (n := n) (f := f) (mb := mb) (q := q) hz hz2.2.1 (by omega)) ml_J5_104 yf_J5_newCapacity_0f7a4 (C.selP rfl pv_J5_newCapacity_0f7a4 yf_J5_newCapacity_0f7a4.1.1) 0 rfl (As := [.int (nI q)]) rfl rfl ⟨(Nat.le_of_ble_eq_true rfl), (Nat.le_of_ble_eq_true rfl)⟩ ⟨(Nat.le_of_ble_eq_true rfl), (Nat.le_of_ble_eq_true rfl)⟩ hl.1 (Nat.le_of_ble_eq_true rfl) dJ5_ensureCapacityInternal_d00df_24 (fun r_24 _ H locs hp_24 hw => ?_)
    obtain rfl : r_24 = nI (2 * cp + 2) := hp_24
    replace hw : WH G s (sbW G b v cp f mb (nI n) ++ X) H locs := hw
    refine lv_aload_n C.1 C.2.1 dJ5_ensureCapacityInternal_d00df_27 rfl (lv_at hl 1 rfl) ?_
    refine r_get C hw 0 rfl rfl in_J4 1 (by decide) fl_J5_22 rfl (v := .int 0) rfl dJ5_ensureCapacityInternal_d00df_28 ?_
    refine lv_ishl C.1 C.2.1 dJ5_ensureCapacityInternal_d00df_31 ?_
    refine r_toe (sb_shl0 (nI (2 * cp + 2))) ?_
    refine r_sr C hw (j7_copyOf hF (w0 := sbW G b v cp f mb (nI n) ++ X) (v := v) (cp := cp) (q := 2 * cp + 2) (f := f) 1 rfl (by omega) (by omega) hf) ml_J5_108 yf_J7_copyOf_9075b (As := [.ref v, .int (nI (2 * cp + 2))]) rfl rfl ⟨(Nat.le_of_ble_eq_true rfl), (Nat.le_of_ble_eq_true rfl)⟩ ⟨(Nat.le_of_ble_eq_true rfl), (Nat.le_of_ble_eq_true rfl)⟩ hl.1 (Nat.le_of_ble_eq_true rfl) dJ5_ensureCapacityInternal_d00df_32 (fun _ qn H locs hp_32 hw => ?_)
    refine r_put C hw 1 rfl rfl in_J4 tyJ4 tyJ4_ok nmJ4 0 (by decide) fl_J5_15 rfl rfl rfl rfl (Nat.le_of_ble_eq_true rfl) (w' := (qn, .inl (G.2.2.1 1, 2 * cp + 2, .inl (va_cpy f (fun _ => 0) 0 0 cp))) :: (b, .inr (1, [.ref qn, .int 0, .int mb, .int (nI n)])) :: (v, .inl (G.2.2.1 1, cp, .inl f)) :: X) rfl dJ5_ensureCapacityInternal_d00df_35 (fun H locs hw => ?_)
    have hw2 : WH G s (sbW G b qn (2 * cp + 2) (va_cpy f (fun _ => 0) 0 0 cp) mb (nI n) ++ X) H locs := (hw.fewer (List.Sublist.cons_cons _ (List.Sublist.cons_cons _ (List.Sublist.cons _ (List.Sublist.refl _))))).perm (List.Perm.swap _ _ _)
    exact r_vret C hw2 rfl (qn, 2 * cp + 2, (va_cpy f (fun _ => 0) 0 0 cp)) ⟨hz2.1, hz2.2.1, by show cp ≤ 2 * cp + 2; omega, sb_fitC hf sb_fit0, fun j hj => by show va_cpy f (fun _ => 0) 0 0 cp j = f j; exact sb_cpy0 hj⟩ rfl (Nat.le_of_ble_eq_true rfl) (Nat.le_of_ble_eq_true rfl) dJ5_ensureCapacityInternal_d00df_38
set_option maxHeartbeats 4000000 in
set_option maxRecDepth 100000 in
theorem t_coder {l : Launch} {G : Gx} (hF : SF l G) {X : va_W} {a : Nat} {L : List Int32} (ht : Txt G a L X) : MI l G yJ0_coder_7d493 cJ0_coder_7d493 1 .byte 0 0 0 [.ref a] X (fun r (_ : Unit) => r = 0) (fun _ => X) := by
  refine mt_of hF (by decide) (Nat.le_of_ble_eq_true rfl) ?_
  intro p e s m below meth c C hin ls hl H locs hw
  have hl : lv_has ls 1 [(0, .ref a)] := hl
  refine r_comp C hw fl_J0_38 dJ0_coder_7d493_0 ?_
  refine lv_if_eq (tgt := 13) C.1 C.2.1 dJ0_coder_7d493_3 (by decide) (fun c_3 => absurd c_3 (by decide)) (fun c_3 => ?_)
  refine lv_aload_n C.1 C.2.1 dJ0_coder_7d493_6 rfl (lv_at hl 0 rfl) ?_
  refine r_tcod C hw ht fl_J0_15 dJ0_coder_7d493_7 ?_
  refine lv_goto (tgt := 14) C.1 C.2.1 dJ0_coder_7d493_10 (by decide) ?_
  exact r_iret C hw rfl rfl () rfl rfl (Nat.le_of_ble_eq_true rfl) (Nat.le_of_ble_eq_true rfl) dJ0_coder_7d493_14
set_option maxHeartbeats 4000000 in
set_option maxRecDepth 100000 in
theorem t_isLatin1 {l : Launch} {G : Gx} (hF : SF l G) {X : va_W} {a : Nat} {L : List Int32} (ht : Txt G a L X) : MI l G yJ0_isLatin1_aae02 cJ0_isLatin1_aae02 1 .boolean 0 0 0 [.ref a] X (fun r (_ : Unit) => r = 1) (fun _ => X) := by
  refine mt_of hF (by decide) (Nat.le_of_ble_eq_true rfl) ?_
  intro p e s m below meth c C hin ls hl H locs hw
  have hl : lv_has ls 1 [(0, .ref a)] := hl
  refine r_comp C hw fl_J0_38 dJ0_isLatin1_aae02_0 ?_
  refine lv_if_eq (tgt := 17) C.1 C.2.1 dJ0_isLatin1_aae02_3 (by decide) (fun c_3 => absurd c_3 (by decide)) (fun c_3 => ?_)
  refine lv_aload_n C.1 C.2.1 dJ0_isLatin1_aae02_6 rfl (lv_at hl 0 rfl) ?_
  refine r_tcod C hw ht fl_J0_15 dJ0_isLatin1_aae02_7 ?_
  refine lv_if_ne (tgt := 17) C.1 C.2.1 dJ0_isLatin1_aae02_10 (by decide) (fun c_10 => absurd (by decide) c_10) (fun c_10 => ?_)
  refine lv_iconst (v := 1) C.1 C.2.1 dJ0_isLatin1_aae02_13 (by decide) ?_
  refine lv_goto (tgt := 18) C.1 C.2.1 dJ0_isLatin1_aae02_14 (by decide) ?_
  exact r_iret C hw rfl rfl () rfl rfl (Nat.le_of_ble_eq_true rfl) (Nat.le_of_ble_eq_true rfl) dJ0_isLatin1_aae02_18
set_option maxHeartbeats 4000000 in
set_option maxRecDepth 100000 in
theorem t_length {l : Launch} {G : Gx} (hF : SF l G) {X : va_W} {a : Nat} {L : List Int32} (hL : L.length < 2 ^ 31) (ht : Txt G a L X) : MI l G yJ0_length_8abf5 cJ0_length_8abf5 1 .int 1 0 0 [.ref a] X (fun r (_ : Unit) => r = nI L.length) (fun _ => X) := by
  refine mt_of hF (by decide) (Nat.le_of_ble_eq_true rfl) ?_
  intro p e s m below meth c C hin ls hl H locs hw
  have hl : lv_has ls 1 [(0, .ref a)] := hl
  refine lv_aload_n C.1 C.2.1 dJ0_length_8abf5_0 rfl (lv_at hl 0 rfl) ?_
  refine r_tval C hw ht fl_J0_9 dJ0_length_8abf5_1 (fun v hv => ?_)
  refine r_tvl C hw hv dJ0_length_8abf5_4 ?_
  refine lv_aload_n C.1 C.2.1 dJ0_length_8abf5_5 rfl (lv_at hl 0 rfl) ?_
  refine r_Ti C hw (t_coder hF ht) ml_J0_335 yf_J0_coder_7d493 rfl ht (As := []) rfl rfl ⟨(Nat.le_of_ble_eq_true rfl), (Nat.le_of_ble_eq_true rfl)⟩ ⟨(Nat.le_of_ble_eq_true rfl), (Nat.le_of_ble_eq_true rfl)⟩ hl.1 (Nat.le_of_ble_eq_true rfl) dJ0_length_8abf5_6 (fun r_6 _ H locs hp_6 hw => ?_)
  obtain rfl : r_6 = 0 := hp_6
  replace hw : WH G s X H locs := hw
  refine lv_ishr C.1 C.2.1 dJ0_length_8abf5_9 ?_
  exact r_iret C hw rfl rfl () (sc_shr0 hL) rfl (Nat.le_of_ble_eq_true rfl) (Nat.le_of_ble_eq_true rfl) dJ0_length_8abf5_10
set_option maxHeartbeats 4000000 in
set_option maxRecDepth 100000 in
theorem t_charAt1 {l : Launch} {G : Gx} (hF : SF l G) {X : va_W} {v i : Nat} {L : List Int32} (hi : i < L.length) (hL : L.length < 2 ^ 31) (hv : TxV G v L X) : MI l G yJ1_charAt_3b067 cJ1_charAt_3b067 2 .char 2 0 0 [.ref v, .int (nI i)] X (fun r (_ : Unit) => r = L.getD i 0 &&& 255) (fun _ => X) := by
  refine mt_of hF (by decide) (Nat.le_of_ble_eq_true rfl) ?_
  intro p e s m below meth c C hin ls hl H locs hw
  have hl : lv_has ls 2 [(0, .ref v), (1, .int (nI i))] := hl
  refine lv_iload_n C.1 C.2.1 dJ1_charAt_3b067_0 rfl (lv_at hl 1 rfl) ?_
  refine lv_aload_n C.1 C.2.1 dJ1_charAt_3b067_1 rfl (lv_at hl 0 rfl) ?_
  refine r_tvl C hw hv dJ1_charAt_3b067_2 ?_
  refine r_sv C hw (j_ckI hF (X := X) hi hL) ml_J1_9 yf_J0_checkIndex_df160 (As := [.int (nI i), .int (nI L.length)]) rfl rfl ⟨(Nat.le_of_ble_eq_true rfl), (Nat.le_of_ble_eq_true rfl)⟩ ⟨(Nat.le_of_ble_eq_true rfl), (Nat.le_of_ble_eq_true rfl)⟩ hl.1 (Nat.le_of_ble_eq_true rfl) dJ1_charAt_3b067_3 (fun _ H locs hp_3 hw => ?_)
  replace hw : WH G s X H locs := hw
  refine lv_aload_n C.1 C.2.1 dJ1_charAt_3b067_6 rfl (lv_at hl 0 rfl) ?_
  refine lv_iload_n C.1 C.2.1 dJ1_charAt_3b067_7 rfl (lv_at hl 1 rfl) ?_
  refine r_tvb C hw hv (i := i) hi hL dJ1_charAt_3b067_8 ?_
  refine lv_sipush (v := 255) C.1 C.2.1 dJ1_charAt_3b067_9 (by decide) ?_
  refine lv_iand C.1 C.2.1 dJ1_charAt_3b067_12 ?_
  refine lv_i2c (v := (((L.getD i 0) &&& 255).toUInt32 % 65536).toInt32) C.1 C.2.1 dJ1_charAt_3b067_13 rfl ?_
  exact r_iret C hw rfl (by rw [sc_c2]; exact sc_nar _) () (sc_c2 _) rfl (Nat.le_of_ble_eq_true rfl) (Nat.le_of_ble_eq_true rfl) dJ1_charAt_3b067_14
set_option maxHeartbeats 4000000 in
set_option maxRecDepth 100000 in
theorem t_charAt {l : Launch} {G : Gx} (hF : SF l G) {X : va_W} {a i : Nat} {L : List Int32} (hi : i < L.length) (hL : L.length < 2 ^ 31) (ht : Txt G a L X) : MI l G yJ0_charAt_5068e cJ0_charAt_5068e 2 .char 3 0 0 [.ref a, .int (nI i)] X (fun r (_ : Unit) => r = L.getD i 0 &&& 255) (fun _ => X) := by
  refine mt_of hF (by decide) (Nat.le_of_ble_eq_true rfl) ?_
  intro p e s m below meth c C hin ls hl H locs hw
  have hl : lv_has ls 2 [(0, .ref a), (1, .int (nI i))] := hl
  refine lv_aload_n C.1 C.2.1 dJ0_charAt_5068e_0 rfl (lv_at hl 0 rfl) ?_
  refine r_Ti C hw (t_isLatin1 hF ht) ml_J0_492 yf_J0_isLatin1_aae02 rfl ht (As := []) rfl rfl ⟨(Nat.le_of_ble_eq_true rfl), (Nat.le_of_ble_eq_true rfl)⟩ ⟨(Nat.le_of_ble_eq_true rfl), (Nat.le_of_ble_eq_true rfl)⟩ hl.1 (Nat.le_of_ble_eq_true rfl) dJ0_charAt_5068e_1 (fun r_1 _ H locs hp_1 hw => ?_)
  obtain rfl : r_1 = 1 := hp_1
  replace hw : WH G s X H locs := hw
  refine lv_if_eq (tgt := 16) C.1 C.2.1 dJ0_charAt_5068e_4 (by decide) (fun c_4 => absurd c_4 (by decide)) (fun c_4 => ?_)
  refine lv_aload_n C.1 C.2.1 dJ0_charAt_5068e_7 rfl (lv_at hl 0 rfl) ?_
  refine r_tval C hw ht fl_J0_9 dJ0_charAt_5068e_8 (fun v hv => ?_)
  refine lv_iload_n C.1 C.2.1 dJ0_charAt_5068e_11 rfl (lv_at hl 1 rfl) ?_
  refine r_si C hw (t_charAt1 hF hi hL hv) ml_J0_495 yf_J1_charAt_3b067 (As := [.ref v, .int (nI i)]) rfl rfl ⟨(Nat.le_of_ble_eq_true rfl), (Nat.le_of_ble_eq_true rfl)⟩ ⟨(Nat.le_of_ble_eq_true rfl), (Nat.le_of_ble_eq_true rfl)⟩ hl.1 (Nat.le_of_ble_eq_true rfl) dJ0_charAt_5068e_12 (fun r_12 _ H locs hp_12 hw => ?_)
  obtain rfl : r_12 = L.getD i 0 &&& 255 := hp_12
  replace hw : WH G s X H locs := hw
  exact r_iret C hw rfl (sc_nar _) () rfl rfl (Nat.le_of_ble_eq_true rfl) (Nat.le_of_ble_eq_true rfl) dJ0_charAt_5068e_15
set_option maxHeartbeats 4000000 in
set_option maxRecDepth 100000 in
theorem t_getBytes {l : Launch} {G : Gx} (hF : SF l G) {X : va_W} {a b v cp n : Nat} {f : Nat → Int32} {mb nn : Int32} {L : List Int32} (ht : Txt G a L X) (hL : bfit L) (hf : sb_Fit f) (hb2 : n + L.length ≤ cp) (hcp : cp ≤ 70) : MV l G yJ0_getBytes_840e7 cJ0_getBytes_840e7 4 2 0 0 [.ref a, .ref v, .int (nI n), .int 0] (sbW G b v cp f mb nn ++ X) (fun f' : Nat → Int32 => sb_Fit f' ∧ (∀ j, j < n → f' j = f j) ∧ ∀ i, i < L.length → f' (n + i) = L.getD i 0) (fun f' => sbW G b v cp f' mb nn ++ X) := by
  refine mt_of hF (by decide) (Nat.le_of_ble_eq_true rfl) ?_
  intro p e s m below meth c C hin ls hl H locs hw
  have hl : lv_has ls 4 [(0, .ref a), (1, .ref v), (2, .int (nI n)), (3, .int 0)] := hl
  have hw : WH G s (sbW G b v cp f mb nn ++ X) H locs := hw
  have ht1 := ht.app (sbW G b v cp f mb nn)
  refine lv_aload_n C.1 C.2.1 dJ0_getBytes_840e7_0 rfl (lv_at hl 0 rfl) ?_
  refine r_Ti C hw (t_coder hF ht1) ml_J0_335 yf_J0_coder_7d493 rfl ht1 (As := []) rfl rfl ⟨(Nat.le_of_ble_eq_true rfl), (Nat.le_of_ble_eq_true rfl)⟩ ⟨(Nat.le_of_ble_eq_true rfl), (Nat.le_of_ble_eq_true rfl)⟩ hl.1 (Nat.le_of_ble_eq_true rfl) dJ0_getBytes_840e7_1 (fun r_1 _ H locs hp_1 hw => ?_)
  obtain rfl : r_1 = 0 := hp_1
  replace hw : WH G s (sbW G b v cp f mb nn ++ X) H locs := hw
  refine lv_iload_n C.1 C.2.1 dJ0_getBytes_840e7_4 rfl (lv_at hl 3 rfl) ?_
  refine lv_icmp_ne (tgt := 28) C.1 C.2.1 dJ0_getBytes_840e7_5 (by decide) (fun c_5 => absurd rfl c_5) (fun c_5 => ?_)
  refine lv_aload_n C.1 C.2.1 dJ0_getBytes_840e7_8 rfl (lv_at hl 0 rfl) ?_
  refine r_tval C hw ht1 fl_J0_9 dJ0_getBytes_840e7_9 (fun tv htv => ?_)
  refine lv_iconst (v := 0) C.1 C.2.1 dJ0_getBytes_840e7_12 (by decide) ?_
  refine lv_aload_n C.1 C.2.1 dJ0_getBytes_840e7_13 rfl (lv_at hl 1 rfl) ?_
  refine lv_iload_n C.1 C.2.1 dJ0_getBytes_840e7_14 rfl (lv_at hl 2 rfl) ?_
  refine lv_iload_n C.1 C.2.1 dJ0_getBytes_840e7_15 rfl (lv_at hl 3 rfl) ?_
  refine lv_ishl C.1 C.2.1 dJ0_getBytes_840e7_16 ?_
  refine r_toe (sb_shl0 (nI n)) ?_
  refine lv_aload_n C.1 C.2.1 dJ0_getBytes_840e7_17 rfl (lv_at hl 0 rfl) ?_
  refine r_tval C hw ht1 fl_J0_9 dJ0_getBytes_840e7_18 (fun tv2 htv2 => ?_)
  refine r_tvl C hw htv2 dJ0_getBytes_840e7_21 ?_
  refine r_tcpy C hw ml_J0_212 htv hL hf hb2 (by omega) hl.1 (Nat.le_of_ble_eq_true rfl) (by decide) dJ0_getBytes_840e7_22 (fun f' H locs h1 h2 h3 hw => ?_)
  refine lv_goto (tgt := 43) C.1 C.2.1 dJ0_getBytes_840e7_25 (by decide) ?_
  exact r_vret C hw rfl f' ⟨h1, h2, h3⟩ rfl (Nat.le_of_ble_eq_true rfl) (Nat.le_of_ble_eq_true rfl) dJ0_getBytes_840e7_43
set_option maxHeartbeats 4000000 in
set_option maxRecDepth 100000 in
theorem t_infl {l : Launch} {G : Gx} (hF : SF l G) {X : va_W} {a b v cp : Nat} {f : Nat → Int32} {mb nn : Int32} {L : List Int32} (ht : Txt G a L X) : MV l G yJ5_inflateIfNeededFor_a7421 cJ5_inflateIfNeededFor_a7421 2 1 0 0 [.ref b, .ref a] (sbW G b v cp f mb nn ++ X) (fun _ => True) (fun _ : Unit => sbW G b v cp f mb nn ++ X) := by
  refine mt_of hF (by decide) (Nat.le_of_ble_eq_true rfl) ?_
  intro p e s m below meth c C hin ls hl H locs hw
  have hl : lv_has ls 2 [(0, .ref b), (1, .ref a)] := hl
  have hw : WH G s (sbW G b v cp f mb nn ++ X) H locs := hw
  have ht1 := ht.app (sbW G b v cp f mb nn)
  refine r_comp C hw fl_J5_18 dJ5_inflateIfNeededFor_a7421_0 ?_
  refine lv_if_eq (tgt := 21) C.1 C.2.1 dJ5_inflateIfNeededFor_a7421_3 (by decide) (fun c_3 => absurd c_3 (by decide)) (fun c_3 => ?_)
  refine lv_aload_n C.1 C.2.1 dJ5_inflateIfNeededFor_a7421_6 rfl (lv_at hl 0 rfl) ?_
  refine r_get C hw 0 rfl rfl in_J4 1 (by decide) fl_J5_22 rfl (v := .int 0) rfl dJ5_inflateIfNeededFor_a7421_7 ?_
  refine lv_aload_n C.1 C.2.1 dJ5_inflateIfNeededFor_a7421_10 rfl (lv_at hl 1 rfl) ?_
  refine r_Ti C hw (t_coder hF ht1) ml_J5_40 yf_J0_coder_7d493 rfl ht1 (As := []) rfl rfl ⟨(Nat.le_of_ble_eq_true rfl), (Nat.le_of_ble_eq_true rfl)⟩ ⟨(Nat.le_of_ble_eq_true rfl), (Nat.le_of_ble_eq_true rfl)⟩ hl.1 (Nat.le_of_ble_eq_true rfl) dJ5_inflateIfNeededFor_a7421_11 (fun r_11 _ H locs hp_11 hw => ?_)
  obtain rfl : r_11 = 0 := hp_11
  replace hw : WH G s (sbW G b v cp f mb nn ++ X) H locs := hw
  refine lv_icmp_eq (tgt := 21) C.1 C.2.1 dJ5_inflateIfNeededFor_a7421_14 (by decide) (fun c_14 => ?_) (fun c_14 => absurd rfl c_14)
  exact r_vret C hw rfl () trivial rfl (Nat.le_of_ble_eq_true rfl) (Nat.le_of_ble_eq_true rfl) dJ5_inflateIfNeededFor_a7421_21
set_option maxHeartbeats 4000000 in
set_option maxRecDepth 100000 in
theorem t_putStr {l : Launch} {G : Gx} (hF : SF l G) {X : va_W} {a b v cp n : Nat} {f : Nat → Int32} {mb nn : Int32} {L : List Int32} (ht : Txt G a L X) (hL : bfit L) (hf : sb_Fit f) (hb2 : n + L.length ≤ cp) (hcp : cp ≤ 70) : MV l G yJ5_putStringAt_47b60 cJ5_putStringAt_47b60 3 3 0 0 [.ref b, .int (nI n), .ref a] (sbW G b v cp f mb nn ++ X) (fun f' : Nat → Int32 => sb_Fit f' ∧ (∀ j, j < n → f' j = f j) ∧ ∀ i, i < L.length → f' (n + i) = L.getD i 0) (fun f' => sbW G b v cp f' mb nn ++ X) := by
  refine mt_of hF (by decide) (Nat.le_of_ble_eq_true rfl) ?_
  intro p e s m below meth c C hin ls hl H locs hw
  have hl : lv_has ls 3 [(0, .ref b), (1, .int (nI n)), (2, .ref a)] := hl
  have hw : WH G s (sbW G b v cp f mb nn ++ X) H locs := hw
  have ht1 := ht.app (sbW G b v cp f mb nn)
  refine lv_aload_n C.1 C.2.1 dJ5_putStringAt_47b60_0 rfl (lv_at hl 0 rfl) ?_
  refine lv_aload_n C.1 C.2.1 dJ5_putStringAt_47b60_1 rfl (lv_at hl 2 rfl) ?_
  refine r_uv C hw (t_infl hF (X := X) (a := a) (b := b) (v := v) (cp := cp) (f := f) (mb := mb) (nn := nn) ht) ml_J5_397 yf_J5_inflateIfNeededFor_a7421 (C.selP rfl pv_J5_inflateIfNeededFor_a7421 yf_J5_inflateIfNeededFor_a7421.1.1) 0 rfl (As := [.ref a]) rfl rfl ⟨(Nat.le_of_ble_eq_true rfl), (Nat.le_of_ble_eq_true rfl)⟩ ⟨(Nat.le_of_ble_eq_true rfl), (Nat.le_of_ble_eq_true rfl)⟩ hl.1 (Nat.le_of_ble_eq_true rfl) dJ5_putStringAt_47b60_2 (fun _ H locs _ hw => ?_)
  replace hw : WH G s (sbW G b v cp f mb nn ++ X) H locs := hw
  refine lv_aload_n C.1 C.2.1 dJ5_putStringAt_47b60_5 rfl (lv_at hl 2 rfl) ?_
  refine lv_aload_n C.1 C.2.1 dJ5_putStringAt_47b60_6 rfl (lv_at hl 0 rfl) ?_
  refine r_get C hw 0 rfl rfl in_J4 0 (by decide) fl_J5_15 rfl (v := .ref v) rfl dJ5_putStringAt_47b60_7 ?_
  refine lv_iload_n C.1 C.2.1 dJ5_putStringAt_47b60_10 rfl (lv_at hl 1 rfl) ?_
  refine lv_aload_n C.1 C.2.1 dJ5_putStringAt_47b60_11 rfl (lv_at hl 0 rfl) ?_
  refine r_get C hw 0 rfl rfl in_J4 1 (by decide) fl_J5_22 rfl (v := .int 0) rfl dJ5_putStringAt_47b60_12 ?_
  refine r_Tv C hw (t_getBytes hF ht hL hf hb2 hcp) ml_J5_399 yf_J0_getBytes_840e7 rfl ht1 (As := [.ref v, .int (nI n), .int 0]) rfl rfl ⟨(Nat.le_of_ble_eq_true rfl), (Nat.le_of_ble_eq_true rfl)⟩ ⟨(Nat.le_of_ble_eq_true rfl), (Nat.le_of_ble_eq_true rfl)⟩ hl.1 (Nat.le_of_ble_eq_true rfl) dJ5_putStringAt_47b60_15 (fun f' H locs hp hw => ?_)
  exact r_vret C hw rfl f' hp rfl (Nat.le_of_ble_eq_true rfl) (Nat.le_of_ble_eq_true rfl) dJ5_putStringAt_47b60_18
set_option maxHeartbeats 4000000 in
set_option maxRecDepth 100000 in
theorem j5_appendS {l : Launch} {G : Gx} (hF : SF l G) {X : va_W} {a b v cp n : Nat} {f : Nat → Int32} {mb : Int32} {L : List Int32} (hm : mOk cp) (hf : sb_Fit f) (hn : n ≤ cp) (ht : Txt G a L X) (hL : bfit L) (h1 : n + L.length ≤ 70) (h2 : L.length ≤ 18) : MR l G yJ5_append_cf1ce cJ5_append_cf1ce 3 (.object "java/lang/AbstractStringBuilder") 4 1 70 [.ref b, .ref a] (sbW G b v cp f mb (nI n) ++ X) (fun u => mOk u.2.1 ∧ n + L.length ≤ u.2.1 ∧ sb_Fit u.2.2 ∧ (∀ j, j < n → u.2.2 j = f j) ∧ ∀ i, i < L.length → u.2.2 (n + i) = L.getD i 0) (fun (u : Nat × Nat × (Nat → Int32)) _ => sbW G b u.1 u.2.1 u.2.2 mb (nI (n + L.length)) ++ X) := by
  refine mt_of hF (by decide) (Nat.le_of_ble_eq_true rfl) ?_
  intro p e s m below meth c C hin ls hl H locs hw
  have hl : lv_has ls 3 [(0, .ref b), (1, .ref a)] := hl
  have hw : WH G s (sbW G b v cp f mb (nI n) ++ X) H locs := hw
  have ht1 := ht.app (sbW G b v cp f mb (nI n))
  refine lv_aload_n C.1 C.2.1 dJ5_append_cf1ce_0 rfl (lv_at hl 1 rfl) ?_
  refine lv_ifnonnull (tgt := 9) C.1 C.2.1 dJ5_append_cf1ce_1 (by decide) ?_
  refine lv_aload_n C.1 C.2.1 dJ5_append_cf1ce_9 rfl (lv_at hl 1 rfl) ?_
  refine r_Ti C hw (t_length hF (by omega) ht1) ml_J5_32 yf_J0_length_8abf5 rfl ht1 (As := []) rfl rfl ⟨(Nat.le_of_ble_eq_true rfl), (Nat.le_of_ble_eq_true rfl)⟩ ⟨(Nat.le_of_ble_eq_true rfl), (Nat.le_of_ble_eq_true rfl)⟩ hl.1 (Nat.le_of_ble_eq_true rfl) dJ5_append_cf1ce_10 (fun r_10 _ H locs hp_10 hw => ?_)
  obtain rfl : r_10 = nI L.length := hp_10
  replace hw : WH G s (sbW G b v cp f mb (nI n) ++ X) H locs := hw
  refine lv_istore_n (lv' := [(2, .int (nI L.length)), (0, .ref b), (1, .ref a)]) C.1 C.2.1 dJ5_append_cf1ce_13 rfl hl (by decide) rfl (fun ls hl => ?_)
  refine lv_aload_n C.1 C.2.1 dJ5_append_cf1ce_14 rfl (lv_at hl 1 rfl) ?_
  refine lv_aload_n C.1 C.2.1 dJ5_append_cf1ce_15 rfl (lv_at hl 1 rfl) ?_
  refine r_get C hw 0 rfl rfl in_J4 3 (by decide) fl_J5_79 rfl (v := .int (nI n)) rfl dJ5_append_cf1ce_16 ?_
  refine lv_iload_n C.1 C.2.1 dJ5_append_cf1ce_19 rfl (lv_at hl 0 rfl) ?_
  refine lv_iadd C.1 C.2.1 dJ5_append_cf1ce_20 ?_
  refine r_toe (show _ = nI (n + L.length) from nI_add n L.length) ?_
  refine r_uv C hw (j5_ensure18 hF (X := X) (b := b) (v := v) (cp := cp) (n := n) (f := f) (mb := mb) (q := n + L.length) hm hf h1 (by omega)) ml_J5_100 yf_J5_ensureCapacityInternal_d00df (C.selP rfl pv_J5_ensureCapacityInternal_d00df yf_J5_ensureCapacityInternal_d00df.1.1) 0 rfl (As := [.int (nI (n + L.length))]) rfl rfl ⟨(Nat.le_of_ble_eq_true rfl), (Nat.le_of_ble_eq_true rfl)⟩ ⟨(Nat.le_of_ble_eq_true rfl), (Nat.le_of_ble_eq_true rfl)⟩ hl.1 (Nat.le_of_ble_eq_true rfl) dJ5_append_cf1ce_21 (fun u_7 H locs hp_7 hw => ?_)
  obtain ⟨hu1, hu2, hu3, hu4, hu5⟩ := hp_7
  have hmu := mOk_le hu1
  replace hw : WH G s (sbW G b u_7.1 u_7.2.1 u_7.2.2 mb (nI n) ++ X) H locs := hw
  refine lv_aload_n C.1 C.2.1 dJ5_append_cf1ce_24 rfl (lv_at hl 1 rfl) ?_
  refine lv_aload_n C.1 C.2.1 dJ5_append_cf1ce_25 rfl (lv_at hl 1 rfl) ?_
  refine r_get C hw 0 rfl rfl in_J4 3 (by decide) fl_J5_79 rfl (v := .int (nI n)) rfl dJ5_append_cf1ce_26 ?_
  refine lv_aload_n C.1 C.2.1 dJ5_append_cf1ce_29 rfl (lv_at hl 2 rfl) ?_
  refine r_uv C hw (t_putStr hF (X := X) (a := a) (b := b) (v := u_7.1) (cp := u_7.2.1) (n := n) (f := u_7.2.2) (mb := mb) (nn := nI n) ht hL hu4 hu2 (by omega)) ml_J5_208 yf_J5_putStringAt_47b60 (C.selP rfl pv_J5_putStringAt_47b60 yf_J5_putStringAt_47b60.1.1) 0 rfl (As := [.int (nI n), .ref a]) rfl rfl ⟨(Nat.le_of_ble_eq_true rfl), (Nat.le_of_ble_eq_true rfl)⟩ ⟨(Nat.le_of_ble_eq_true rfl), (Nat.le_of_ble_eq_true rfl)⟩ hl.1 (Nat.le_of_ble_eq_true rfl) dJ5_append_cf1ce_30 (fun f' H locs hp hw => ?_)
  obtain ⟨g1, g2, g3⟩ := hp
  replace hw : WH G s (sbW G b u_7.1 u_7.2.1 f' mb (nI n) ++ X) H locs := hw
  refine lv_aload_n C.1 C.2.1 dJ5_append_cf1ce_33 rfl (lv_at hl 1 rfl) ?_
  refine lv_dup C.1 C.2.1 dJ5_append_cf1ce_34 rfl ?_
  refine r_get C hw 0 rfl rfl in_J4 3 (by decide) fl_J5_79 rfl (v := .int (nI n)) rfl dJ5_append_cf1ce_35 ?_
  refine lv_iload_n C.1 C.2.1 dJ5_append_cf1ce_38 rfl (lv_at hl 0 rfl) ?_
  refine lv_iadd C.1 C.2.1 dJ5_append_cf1ce_39 ?_
  refine r_toe (show _ = nI (n + L.length) from nI_add n L.length) ?_
  refine r_put C hw 0 rfl rfl in_J4 tyJ4 tyJ4_ok nmJ4 3 (by decide) fl_J5_79 rfl rfl rfl rfl (Nat.le_of_ble_eq_true rfl) (w' := sbW G b u_7.1 u_7.2.1 f' mb (nI (n + L.length)) ++ X) rfl dJ5_append_cf1ce_40 (fun H locs hw => ?_)
  refine lv_aload_n C.1 C.2.1 dJ5_append_cf1ce_43 rfl (lv_at hl 1 rfl) ?_
  exact r_rret C hw rfl (Or.inl ⟨_, rfl⟩) (u_7.1, u_7.2.1, f') ⟨hu1, hu2, g1, fun j hj => (g2 j hj).trans (hu5 j (by omega)), g3⟩ rfl (Nat.le_of_ble_eq_true rfl) (Nat.le_of_ble_eq_true rfl) dJ5_append_cf1ce_44
set_option maxHeartbeats 4000000 in
set_option maxRecDepth 100000 in
theorem s_appendS {l : Launch} {G : Gx} (hF : SF l G) {X : va_W} {a b : Nat} {u : Nat × Nat × (Nat → Int32) × Int32} {L M : List Int32} (hT : sbT u L) (ht : Txt G a M X) (hM : bfit M) (h1 : L.length + M.length ≤ 70) (h2 : M.length ≤ 18) : MR l G yJ4_append_15ec4 cJ4_append_15ec4 2 (.object "java/lang/StringBuilder") 5 1 70 [.ref b, .ref a] (sbY G b u L ++ X) (fun u1 => sbT u1 (L ++ M)) (fun (u1 : Nat × Nat × (Nat → Int32) × Int32) _ => sbY G b u1 (L ++ M) ++ X) := by
  refine mt_of hF (by decide) (Nat.le_of_ble_eq_true rfl) ?_
  intro p e s m below meth c C hin ls hl H locs hw
  have hl : lv_has ls 2 [(0, .ref b), (1, .ref a)] := hl
  refine lv_aload_n C.1 C.2.1 dJ4_append_15ec4_0 rfl (lv_at hl 0 rfl) ?_
  refine lv_aload_n C.1 C.2.1 dJ4_append_15ec4_1 rfl (lv_at hl 1 rfl) ?_
  refine r_sur C hw (j5_appendS hF (X := X) (a := a) (b := b) (v := u.1) (cp := u.2.1) (n := L.length) (f := u.2.2.1) (mb := u.2.2.2) (L := M) hT.1 hT.2.2.1 hT.2.1 ht hM h1 h2) rfl (by decide +kernel) ml_J4_29 yf_J5_append_cf1ce 0 rfl (As := [.ref a]) rfl rfl ⟨(Nat.le_of_ble_eq_true rfl), (Nat.le_of_ble_eq_true rfl)⟩ ⟨(Nat.le_of_ble_eq_true rfl), (Nat.le_of_ble_eq_true rfl)⟩ hl.1 (Nat.le_of_ble_eq_true rfl) dJ4_append_15ec4_2 (fun u_2 ra_2 H locs hp_2 hw => ?_)
  replace hw : WH G s (sbW G b u_2.1 u_2.2.1 u_2.2.2 u.2.2.2 (nI (L.length + M.length)) ++ X) H locs := hw
  refine lv_pop C.1 C.2.1 dJ4_append_15ec4_5 rfl ?_
  refine lv_aload_n C.1 C.2.1 dJ4_append_15ec4_6 rfl (lv_at hl 0 rfl) ?_
  exact r_rret C hw rfl (Or.inl ⟨_, rfl⟩) (u_2.1, u_2.2.1, u_2.2.2, u.2.2.2) (sbT_app hT hp_2.1 hp_2.2.1 hp_2.2.2.1 hp_2.2.2.2.1 hp_2.2.2.2.2) (by unfold sbY; rw [List.length_append] <;> rfl) (Nat.le_of_ble_eq_true rfl) (Nat.le_of_ble_eq_true rfl) dJ4_append_15ec4_7
