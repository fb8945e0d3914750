/-! A StringBuilder: its public methods -/
theorem j6_getChars {l : Launch} {G : Gx} (hF : SF l G) {W : (Nat → Int32) → va_W} {q1 v cp : Nat} (hR : (∀ g, (W g)[q1]? = some (v, .inl (G.2.2.1 1, cp, .inl g))) ∧ ∀ g g', (W g).set q1 (v, .inl (G.2.2.1 1, cp, .inl g')) = W g') {w n ix : Nat} {f : Nat → Int32} (hwb : w < 100000) (hf : sb_Fit f) (hx : n + (dgL 4 w).length = ix) (hc : ix ≤ cp) (hc2 : cp ≤ 70) : MI l G yJ6_getChars_ba4f3 cJ6_getChars_ba4f3 7 .int 0 0 0 [.int (nI w), .int (nI ix), .ref v] (W f) (fun _ f' => gcP f f' n (dgL 4 w)) (fun f' : Nat → Int32 => W f') := by
  rcases Nat.lt_or_ge w 100 with h | h
  · exact j6_getChars_0 hF hR h hf hx hc hc2
  · rcases Nat.lt_or_ge w 10000 with h2 | h2
    · exact j6_getChars_1 hF hR h h2 hf hx hc hc2
    · exact j6_getChars_2 hF hR h2 hwb hf hx hc hc2
/-- a builder holds the text L -/
def sbT (u : Nat × Nat × (Nat → Int32) × Int32) (L : List Int32) : Prop := mOk u.2.1 ∧ L.length ≤ u.2.1 ∧ sb_Fit u.2.2.1 ∧ ∀ j, j < L.length → u.2.2.1 j = L.getD j 0
def sbY (G : Gx) (b : Nat) (u : Nat × Nat × (Nat → Int32) × Int32) (L : List Int32) : va_W := sbW G b u.1 u.2.1 u.2.2.1 u.2.2.2 (nI L.length)
theorem gD_l {A B : List Int32} {j : Nat} (h : j < A.length) : (A ++ B).getD j 0 = A.getD j 0 := by
  rw [List.getD_eq_getElem?_getD, List.getD_eq_getElem?_getD, List.getElem?_append_left h]
theorem gD_r {A B : List Int32} {i : Nat} : (A ++ B).getD (A.length + i) 0 = B.getD i 0 := by
  rw [List.getD_eq_getElem?_getD, List.getD_eq_getElem?_getD, List.getElem?_append_right (Nat.le_add_right _ _), Nat.add_sub_cancel_left]
theorem sbT_app {u : Nat × Nat × (Nat → Int32) × Int32} {L M : List Int32} {v' cp' : Nat} {f' : Nat → Int32} {mb' : Int32} (h : sbT u L) (h1 : mOk cp') (h2 : L.length + M.length ≤ cp') (h3 : sb_Fit f') (h4 : ∀ j, j < L.length → f' j = u.2.2.1 j) (h5 : ∀ i, i < M.length → f' (L.length + i) = M.getD i 0) : sbT (v', cp', f', mb') (L ++ M) := by
  refine ⟨h1, by rw [List.length_append]; exact h2, h3, fun j hj => ?_⟩
  rw [List.length_append] at hj
  show f' j = _
  rcases Nat.lt_or_ge j L.length with h6 | h6
  · rw [gD_l h6, h4 j h6, h.2.2.2 j h6]
  · rw [show j = L.length + (j - L.length) by omega, gD_r, h5 _ (by omega)]

set_option maxHeartbeats 4000000 in
set_option maxRecDepth 100000 in
theorem j5_appendI {l : Launch} {G : Gx} (hF : SF l G) {X : va_W} {b v cp n : Nat} {f : Nat → Int32} {mb : Int32} (hm : mOk cp) (hf : sb_Fit f) {w : Nat} (hwb : w < 100000) (hn : n ≤ cp) (h1 : n + (dgL 4 w).length ≤ 70) : MR l G yJ5_append_c97b9 cJ5_append_c97b9 4 (.object "java/lang/AbstractStringBuilder") 4 1 70 [.ref b, .int (nI w)] (sbW G b v cp f mb (nI n) ++ X) (fun u => mOk u.2.1 ∧ n + (dgL 4 w).length ≤ u.2.1 ∧ gcP f u.2.2 n (dgL 4 w)) (fun (u : Nat × Nat × (Nat → Int32)) _ => sbW G b u.1 u.2.1 u.2.2 mb (nI (n + (dgL 4 w).length)) ++ X) := by
  refine mt_of hF (by decide) (Nat.le_of_ble_eq_true rfl) ?_
  intro p e s m below meth c C hin ls hl H locs hw
  have hl : lv_has ls 4 [(0, .ref b), (1, .int (nI w))] := hl
  have hml := mOk_le hm
  have hlen := @dgL_len 4 w
  refine lv_aload_n C.1 C.2.1 dJ5_append_c97b9_0 rfl (lv_at hl 0 rfl) ?_
  refine r_get C hw 0 rfl rfl in_J4 3 (by decide) fl_J5_79 rfl (v := .int (nI n)) rfl dJ5_append_c97b9_1 ?_
  refine lv_istore_n (lv' := [(2, .int (nI n)), (0, .ref b), (1, .int (nI w))]) C.1 C.2.1 dJ5_append_c97b9_4 rfl hl (by decide) rfl (fun ls hl => ?_)
  refine lv_iload_n C.1 C.2.1 dJ5_append_c97b9_5 rfl (lv_at hl 0 rfl) ?_
  refine lv_iload_n C.1 C.2.1 dJ5_append_c97b9_6 rfl (lv_at hl 2 rfl) ?_
  refine r_si C hw (j6_stringSize hF (X := sbW G b v cp f mb (nI n) ++ X) (w := w) hwb) ml_J5_245 yf_J6_stringSize_0f7a4 (As := [.int (nI w)]) rfl rfl ⟨(Nat.le_of_ble_eq_true rfl), (Nat.le_of_ble_eq_true rfl)⟩ ⟨(Nat.le_of_ble_eq_true rfl), (Nat.le_of_ble_eq_true rfl)⟩ hl.1 (Nat.le_of_ble_eq_true rfl) dJ5_append_c97b9_7 (fun r_7 _ H locs hp_7 hw => ?_)
  obtain rfl : r_7 = nI (dgL 4 w).length := hp_7
  replace hw : WH G s (sbW G b v cp f mb (nI n) ++ X) H locs := hw
  refine lv_iadd C.1 C.2.1 dJ5_append_c97b9_10 ?_
  refine r_toe (show _ = nI (n + (dgL 4 w).length) from nI_add _ _) ?_
  refine lv_istore_n (lv' := [(3, .int (nI (n + (dgL 4 w).length))), (2, .int (nI n)), (0, .ref b), (1, .int (nI w))]) C.1 C.2.1 dJ5_append_c97b9_11 rfl hl (by decide) rfl (fun ls hl => ?_)
  refine lv_aload_n C.1 C.2.1 dJ5_append_c97b9_12 rfl (lv_at hl 2 rfl) ?_
  refine lv_iload_n C.1 C.2.1 dJ5_append_c97b9_13 rfl (lv_at hl 0 rfl) ?_
  refine r_uv C hw (j5_ensure hF (X := X) (b := b) (v := v) (cp := cp) (n := n) (f := f) (mb := mb) (q := n + (dgL 4 w).length) hm hf h1 (by omega)) ml_J5_100 yf_J5_ensureCapacityInternal_d00df (C.selP rfl pv_J5_ensureCapacityInternal_d00df yf_J5_ensureCapacityInternal_d00df.1.1) 0 rfl (As := [.int (nI (n + (dgL 4 w).length))]) rfl rfl ⟨(Nat.le_of_ble_eq_true rfl), (Nat.le_of_ble_eq_true rfl)⟩ ⟨(Nat.le_of_ble_eq_true rfl), (Nat.le_of_ble_eq_true rfl)⟩ hl.1 (Nat.le_of_ble_eq_true rfl) dJ5_append_c97b9_14 (fun u_14 H locs hp_14 hw => ?_)
  obtain ⟨hu1, hu2, hu3, hu4, hu5⟩ := hp_14
  have hmu := mOk_le hu1
  replace hw : WH G s (sbW G b u_14.1 u_14.2.1 u_14.2.2 mb (nI n) ++ X) H locs := hw
  refine lv_aload_n C.1 C.2.1 dJ5_append_c97b9_17 rfl (lv_at hl 2 rfl) ?_
  refine r_ui C hw (j5_isLatin1 hF (X := X) (b := b) (v := u_14.1) (cp := u_14.2.1) (n := n) (f := u_14.2.2) (mb := mb)) ml_J5_83 yf_J5_isLatin1_aae02 (C.2.2.2.2.2.1 _ sel_J4) 0 rfl (As := []) rfl rfl ⟨(Nat.le_of_ble_eq_true rfl), (Nat.le_of_ble_eq_true rfl)⟩ ⟨(Nat.le_of_ble_eq_true rfl), (Nat.le_of_ble_eq_true rfl)⟩ hl.1 (Nat.le_of_ble_eq_true rfl) dJ5_append_c97b9_18 (fun r_18 _ H locs hp_18 hw => ?_)
  obtain rfl : r_18 = 1 := hp_18
  replace hw : WH G s (sbW G b u_14.1 u_14.2.1 u_14.2.2 mb (nI n) ++ X) H locs := hw
  refine lv_if_eq (tgt := 37) C.1 C.2.1 dJ5_append_c97b9_21 (by decide) (fun c_21 => absurd c_21 (by decide)) (fun c_21 => ?_)
  refine lv_iload_n C.1 C.2.1 dJ5_append_c97b9_24 rfl (lv_at hl 3 rfl) ?_
  refine lv_iload_n C.1 C.2.1 dJ5_append_c97b9_25 rfl (lv_at hl 0 rfl) ?_
  refine lv_aload_n C.1 C.2.1 dJ5_append_c97b9_26 rfl (lv_at hl 2 rfl) ?_
  refine r_get C hw 0 rfl rfl in_J4 0 (by decide) fl_J5_15 rfl (v := .ref u_14.1) rfl dJ5_append_c97b9_27 ?_
  refine r_si C hw (j6_getChars hF (W := fun g => sbW G b u_14.1 u_14.2.1 g mb (nI n) ++ X) (q1 := 1) ⟨fun _ => rfl, fun _ _ => rfl⟩ (w := w) (n := n) (ix := n + (dgL 4 w).length) hwb hu4 rfl hu2 (by omega)) ml_J5_248 yf_J6_getChars_ba4f3 (As := [.int (nI w), .int (nI (n + (dgL 4 w).length)), .ref u_14.1]) rfl rfl ⟨(Nat.le_of_ble_eq_true rfl), (Nat.le_of_ble_eq_true rfl)⟩ ⟨(Nat.le_of_ble_eq_true rfl), (Nat.le_of_ble_eq_true rfl)⟩ hl.1 (Nat.le_of_ble_eq_true rfl) dJ5_append_c97b9_30 (fun r_30 f1 H locs hp_30 hw => ?_)
  replace hw : WH G s (sbW G b u_14.1 u_14.2.1 f1 mb (nI n) ++ X) H locs := hw
  refine lv_pop C.1 C.2.1 dJ5_append_c97b9_33 rfl ?_
  refine lv_goto (tgt := 48) C.1 C.2.1 dJ5_append_c97b9_34 (by decide) ?_
  refine lv_aload_n C.1 C.2.1 dJ5_append_c97b9_48 rfl (lv_at hl 2 rfl) ?_
  refine lv_iload_n C.1 C.2.1 dJ5_append_c97b9_49 rfl (lv_at hl 0 rfl) ?_
  refine r_put C hw 0 rfl rfl in_J4 tyJ4 tyJ4_ok nmJ4 3 (by decide) fl_J5_79 rfl rfl rfl rfl (Nat.le_of_ble_eq_true rfl) (w' := sbW G b u_14.1 u_14.2.1 f1 mb (nI (n + (dgL 4 w).length)) ++ X) rfl dJ5_append_c97b9_50 (fun H locs hw => ?_)
  refine lv_aload_n C.1 C.2.1 dJ5_append_c97b9_53 rfl (lv_at hl 2 rfl) ?_
  exact r_rret C hw rfl (Or.inl ⟨_, rfl⟩) (u_14.1, u_14.2.1, f1) (⟨hu1, hu2, hp_30.1, fun j hj => (hp_30.2.1 j hj).trans (hu5 j (by omega)), hp_30.2.2⟩) rfl (Nat.le_of_ble_eq_true rfl) (Nat.le_of_ble_eq_true rfl) dJ5_append_c97b9_54

set_option maxHeartbeats 4000000 in
set_option maxRecDepth 100000 in
theorem j5_setLength {l : Launch} {G : Gx} (hF : SF l G) {X : va_W} {b v cp n : Nat} {f : Nat → Int32} {mb : Int32} (hm : mOk cp) (hf : sb_Fit f) (hn : n ≤ cp) : MV l G yJ5_setLength_d00df cJ5_setLength_d00df 2 4 1 70 [.ref b, .int 0] (sbW G b v cp f mb (nI n) ++ X) (fun u => mOk u.2.1 ∧ sb_Fit u.2.2.1) (fun u : Nat × Nat × (Nat → Int32) × Int32 => sbW G b u.1 u.2.1 u.2.2.1 u.2.2.2 0 ++ X) := by
  refine mt_of hF (by decide) (Nat.le_of_ble_eq_true rfl) ?_
  intro p e s m below meth c C hin ls hl H locs hw
  have hl : lv_has ls 2 [(0, .ref b), (1, .int 0)] := hl
  have hml := mOk_le hm
  refine lv_iload_n C.1 C.2.1 dJ5_setLength_d00df_0 rfl (lv_at hl 1 rfl) ?_
  refine lv_if_ge (tgt := 13) C.1 C.2.1 dJ5_setLength_d00df_1 (by decide) (fun c_1 => ?_) (fun c_1 => absurd (by decide) c_1)
  refine lv_aload_n C.1 C.2.1 dJ5_setLength_d00df_13 rfl (lv_at hl 0 rfl) ?_
  refine lv_iload_n C.1 C.2.1 dJ5_setLength_d00df_14 rfl (lv_at hl 1 rfl) ?_
  refine r_uv C hw (j5_ensure hF (X := X) (b := b) (v := v) (cp := cp) (n := n) (f := f) (mb := mb) (q := 0) hm hf (by omega) (by omega)) ml_J5_100 yf_J5_ensureCapacityInternal_d00df (C.selP rfl pv_J5_ensureCapacityInternal_d00df yf_J5_ensureCapacityInternal_d00df.1.1) 0 rfl (As := [.int 0]) rfl rfl ⟨(Nat.le_of_ble_eq_true rfl), (Nat.le_of_ble_eq_true rfl)⟩ ⟨(Nat.le_of_ble_eq_true rfl), (Nat.le_of_ble_eq_true rfl)⟩ hl.1 (Nat.le_of_ble_eq_true rfl) dJ5_setLength_d00df_15 (fun u_15 H locs hp_15 hw => ?_)
  obtain ⟨hu1, hu2, hu3, hu4, hu5⟩ := hp_15
  have hmu := mOk_le hu1
  replace hw : WH G s (sbW G b u_15.1 u_15.2.1 u_15.2.2 mb (nI n) ++ X) H locs := hw
  refine lv_aload_n C.1 C.2.1 dJ5_setLength_d00df_18 rfl (lv_at hl 0 rfl) ?_
  refine r_get C hw 0 rfl rfl in_J4 3 (by decide) fl_J5_79 rfl (v := .int (nI n)) rfl dJ5_setLength_d00df_19 ?_
  refine lv_iload_n C.1 C.2.1 dJ5_setLength_d00df_22 rfl (lv_at hl 1 rfl) ?_
  refine lv_icmp_ge (tgt := 63) C.1 C.2.1 dJ5_setLength_d00df_23 (by decide) (fun c_23 => ?_) (fun c_23 => absurd (nI_pos' (by omega)) c_23)
  refine lv_aload_n C.1 C.2.1 dJ5_setLength_d00df_63 rfl (lv_at hl 0 rfl) ?_
  refine r_get C hw 0 rfl rfl in_J4 3 (by decide) fl_J5_79 rfl (v := .int (nI n)) rfl dJ5_setLength_d00df_64 ?_
  refine lv_iload_n C.1 C.2.1 dJ5_setLength_d00df_67 rfl (lv_at hl 1 rfl) ?_
  refine lv_icmp_le (tgt := 76) C.1 C.2.1 dJ5_setLength_d00df_68 (by decide) (fun c_68 => ?_) (fun c_68 => ?_)
  · refine lv_aload_n C.1 C.2.1 dJ5_setLength_d00df_76 rfl (lv_at hl 0 rfl) ?_
    refine lv_iload_n C.1 C.2.1 dJ5_setLength_d00df_77 rfl (lv_at hl 1 rfl) ?_
    refine r_put C hw 0 rfl rfl in_J4 tyJ4 tyJ4_ok nmJ4 3 (by decide) fl_J5_79 rfl rfl rfl rfl (Nat.le_of_ble_eq_true rfl) (w' := sbW G b u_15.1 u_15.2.1 u_15.2.2 mb 0 ++ X) rfl dJ5_setLength_d00df_78 (fun H locs hw => ?_)
    exact r_vret C hw rfl (u_15.1, u_15.2.1, u_15.2.2, mb) (⟨hu1, hu4⟩) rfl (Nat.le_of_ble_eq_true rfl) (Nat.le_of_ble_eq_true rfl) dJ5_setLength_d00df_81
  · refine lv_aload_n C.1 C.2.1 dJ5_setLength_d00df_71 rfl (lv_at hl 0 rfl) ?_
    refine lv_iconst (v := 1) C.1 C.2.1 dJ5_setLength_d00df_72 (by decide) ?_
    refine r_put C hw 0 rfl rfl in_J4 tyJ4 tyJ4_ok nmJ4 2 (by decide) fl_J5_73 rfl rfl rfl rfl (Nat.le_of_ble_eq_true rfl) (w' := sbW G b u_15.1 u_15.2.1 u_15.2.2 1 (nI n) ++ X) rfl dJ5_setLength_d00df_73 (fun H locs hw => ?_)
    refine lv_aload_n C.1 C.2.1 dJ5_setLength_d00df_76 rfl (lv_at hl 0 rfl) ?_
    refine lv_iload_n C.1 C.2.1 dJ5_setLength_d00df_77 rfl (lv_at hl 1 rfl) ?_
    refine r_put C hw 0 rfl rfl in_J4 tyJ4 tyJ4_ok nmJ4 3 (by decide) fl_J5_79 rfl rfl rfl rfl (Nat.le_of_ble_eq_true rfl) (w' := sbW G b u_15.1 u_15.2.1 u_15.2.2 1 0 ++ X) rfl dJ5_setLength_d00df_78 (fun H locs hw => ?_)
    exact r_vret C hw rfl (u_15.1, u_15.2.1, u_15.2.2, 1) (⟨hu1, hu4⟩) rfl (Nat.le_of_ble_eq_true rfl) (Nat.le_of_ble_eq_true rfl) dJ5_setLength_d00df_81

set_option maxHeartbeats 4000000 in
set_option maxRecDepth 100000 in
theorem j5_charAt {l : Launch} {G : Gx} (hF : SF l G) {X : va_W} {b v cp n : Nat} {f : Nat → Int32} {mb : Int32} {i : Nat} (hi : i < n) (hn : n ≤ cp) (hc : cp ≤ 70) : MI l G yJ5_charAt_5068e cJ5_charAt_5068e 5 .char 2 0 0 [.ref b, .int (nI i)] (sbW G b v cp f mb (nI n) ++ X) (fun r _ => r = f i &&& 255) (fun _ : Unit => sbW G b v cp f mb (nI n) ++ X) := by
  refine mt_of hF (by decide) (Nat.le_of_ble_eq_true rfl) ?_
  intro p e s m below meth c C hin ls hl H locs hw
  have hl : lv_has ls 5 [(0, .ref b), (1, .int (nI i))] := hl
  refine lv_aload_n C.1 C.2.1 dJ5_charAt_5068e_0 rfl (lv_at hl 0 rfl) ?_
  refine r_get C hw 0 rfl rfl in_J4 1 (by decide) fl_J5_22 rfl (v := .int 0) rfl dJ5_charAt_5068e_1 ?_
  refine lv_istore_n (lv' := [(2, .int 0), (0, .ref b), (1, .int (nI i))]) C.1 C.2.1 dJ5_charAt_5068e_4 rfl hl (by decide) rfl (fun ls hl => ?_)
  refine lv_aload_n C.1 C.2.1 dJ5_charAt_5068e_5 rfl (lv_at hl 1 rfl) ?_
  refine r_get C hw 0 rfl rfl in_J4 0 (by decide) fl_J5_15 rfl (v := .ref v) rfl dJ5_charAt_5068e_6 ?_
  refine lv_astore_n (lv' := [(3, .ref v), (2, .int 0), (0, .ref b), (1, .int (nI i))]) C.1 C.2.1 dJ5_charAt_5068e_9 rfl hl (by decide) rfl (fun ls hl => ?_)
  refine lv_aload_n C.1 C.2.1 dJ5_charAt_5068e_10 rfl (lv_at hl 2 rfl) ?_
  refine r_get C hw 0 rfl rfl in_J4 3 (by decide) fl_J5_79 rfl (v := .int (nI n)) rfl dJ5_charAt_5068e_11 ?_
  refine lv_aload_n C.1 C.2.1 dJ5_charAt_5068e_14 rfl (lv_at hl 0 rfl) ?_
  refine r_alen C hw 1 1 rfl rfl dJ5_charAt_5068e_15 ?_
  refine lv_iload_n C.1 C.2.1 dJ5_charAt_5068e_16 rfl (lv_at hl 1 rfl) ?_
  refine lv_ishr C.1 C.2.1 dJ5_charAt_5068e_17 ?_
  refine r_toe (sb_shr0 (nI cp)) ?_
  refine r_mmin C ml_J5_138 hl.1 (Nat.le_of_ble_eq_true rfl) (Nat.le_of_ble_eq_true rfl) (Nat.le_of_ble_eq_true rfl) (Nat.le_of_ble_eq_true rfl) dJ5_charAt_5068e_18 ?_
  refine r_toe (show _ = nI n from (mmin_nI (by omega) (by omega)).trans (by rw [Nat.min_eq_left hn])) ?_
  refine lv_istore (lv' := [(4, .int (nI n)), (3, .ref v), (2, .int 0), (0, .ref b), (1, .int (nI i))]) C.1 C.2.1 dJ5_charAt_5068e_21 hl (by decide) rfl (fun ls hl => ?_)
  refine lv_iload_n C.1 C.2.1 dJ5_charAt_5068e_23 rfl (lv_at hl 4 rfl) ?_
  refine lv_iload C.1 C.2.1 dJ5_charAt_5068e_24 (lv_at hl 0 rfl) ?_
  refine r_sv C hw (j_ckI hF (X := sbW G b v cp f mb (nI n) ++ X) hi (by omega)) ml_J5_144 yf_J0_checkIndex_df160 (As := [.int (nI i), .int (nI n)]) rfl rfl ⟨(Nat.le_of_ble_eq_true rfl), (Nat.le_of_ble_eq_true rfl)⟩ ⟨(Nat.le_of_ble_eq_true rfl), (Nat.le_of_ble_eq_true rfl)⟩ hl.1 (Nat.le_of_ble_eq_true rfl) dJ5_charAt_5068e_26 (fun _ H locs hp_26 hw => ?_)
  replace hw : WH G s (sbW G b v cp f mb (nI n) ++ X) H locs := hw
  refine lv_iload_n C.1 C.2.1 dJ5_charAt_5068e_29 rfl (lv_at hl 2 rfl) ?_
  refine lv_if_ne (tgt := 42) C.1 C.2.1 dJ5_charAt_5068e_30 (by decide) (fun c_30 => absurd (rfl) c_30) (fun c_30 => ?_)
  refine lv_aload_n C.1 C.2.1 dJ5_charAt_5068e_33 rfl (lv_at hl 1 rfl) ?_
  refine lv_iload_n C.1 C.2.1 dJ5_charAt_5068e_34 rfl (lv_at hl 4 rfl) ?_
  refine r_bald C hw 1 rfl (vp_in_nI (n := i) (by omega) (by omega)) dJ5_charAt_5068e_35 ?_
  refine r_toe (show _ = f i from congrArg f (nI_clamp (n := i) (by omega))) ?_
  refine lv_sipush (v := 255) C.1 C.2.1 dJ5_charAt_5068e_36 (by decide) ?_
  refine lv_iand C.1 C.2.1 dJ5_charAt_5068e_39 ?_
  refine lv_i2c (v := (((f i) &&& 255).toUInt32 % 65536).toInt32) C.1 C.2.1 dJ5_charAt_5068e_40 rfl ?_
  refine r_toe (show _ = (f i &&& 255) from sc_c2 _) ?_
  exact r_iret C hw rfl (sc_nar _) () (rfl) rfl (Nat.le_of_ble_eq_true rfl) (Nat.le_of_ble_eq_true rfl) dJ5_charAt_5068e_41

set_option maxHeartbeats 4000000 in
set_option maxRecDepth 100000 in
theorem j5_init {l : Launch} {G : Gx} (hF : SF l G) {X : va_W} {q : Nat} : MV l G yJ5_init_d00df cJ5_init_d00df 2 1 1 16 [.ref q, .int 16] ((q, .inr (1, [.null, .int 0, .int 0, .int 0])) :: X) (fun _ : Nat => True) (fun v => sbW G q v 16 (fun _ => 0) 0 0 ++ X) := by
  refine mt_of hF (by decide) (Nat.le_of_ble_eq_true rfl) ?_
  intro p e s m below meth c C hin ls hl H locs hw
  have hl : lv_has ls 2 [(0, .ref q), (1, .int 16)] := hl
  refine lv_aload_n C.1 C.2.1 dJ5_init_d00df_0 rfl (lv_at hl 0 rfl) ?_
  refine r_objInit C ml_J5_3 obj_i1 obj_i2 hl.1 dJ5_init_d00df_1 (Nat.le_of_ble_eq_true rfl) (Nat.le_of_ble_eq_true rfl) ?_
  refine r_comp C hw fl_J5_18 dJ5_init_d00df_4 ?_
  refine lv_if_eq (tgt := 25) C.1 C.2.1 dJ5_init_d00df_7 (by decide) (fun c_7 => absurd c_7 (by decide)) (fun c_7 => ?_)
  refine lv_aload_n C.1 C.2.1 dJ5_init_d00df_10 rfl (lv_at hl 0 rfl) ?_
  refine lv_iload_n C.1 C.2.1 dJ5_init_d00df_11 rfl (lv_at hl 1 rfl) ?_
  refine r_newa C hw (atype := .byte) 1 rfl rfl ac_byte (n := 16) rfl (by decide) (w' := fun z => (q, .inr (1, [.null, .int 0, .int 0, .int 0])) :: ((z, .inl (G.2.2.1 1, 16, .inl (fun _ => 0))) :: X)) (fun z => (List.perm_append_singleton _ _).cons _) (Nat.le_of_ble_eq_true rfl) (Nat.le_of_ble_eq_true rfl) (Nat.le_of_ble_eq_true rfl) dJ5_init_d00df_12 (fun q_12 H locs hw => ?_)
  replace hw : WH G s ((q, .inr (1, [.null, .int 0, .int 0, .int 0])) :: ((q_12, .inl (G.2.2.1 1, 16, .inl (fun _ => 0))) :: X)) H locs := hw
  refine r_put C hw 0 rfl rfl in_J4 tyJ4 tyJ4_ok nmJ4 0 (by decide) fl_J5_15 rfl rfl rfl rfl (Nat.le_of_ble_eq_true rfl) (w' := (q, .inr (1, [.ref q_12, .int 0, .int 0, .int 0])) :: ((q_12, .inl (G.2.2.1 1, 16, .inl (fun _ => 0))) :: X)) rfl dJ5_init_d00df_14 (fun H locs hw => ?_)
  refine lv_aload_n C.1 C.2.1 dJ5_init_d00df_17 rfl (lv_at hl 0 rfl) ?_
  refine lv_iconst (v := 0) C.1 C.2.1 dJ5_init_d00df_18 (by decide) ?_
  refine r_put C hw 0 rfl rfl in_J4 tyJ4 tyJ4_ok nmJ4 1 (by decide) fl_J5_22 rfl rfl rfl rfl (Nat.le_of_ble_eq_true rfl) (w' := (q, .inr (1, [.ref q_12, .int 0, .int 0, .int 0])) :: ((q_12, .inl (G.2.2.1 1, 16, .inl (fun _ => 0))) :: X)) rfl dJ5_init_d00df_19 (fun H locs hw => ?_)
  refine lv_goto (tgt := 38) C.1 C.2.1 dJ5_init_d00df_22 (by decide) ?_
  exact r_vret C hw rfl q_12 trivial rfl (Nat.le_of_ble_eq_true rfl) (Nat.le_of_ble_eq_true rfl) dJ5_init_d00df_38

