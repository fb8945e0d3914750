/-! The JDK: a text's char -/
set_option maxHeartbeats 4000000 in
set_option maxRecDepth 100000 in
theorem j_ckN {l : Launch} {G : Gx} (hF : SF l G) {X : va_W} {i n : Nat} (hi : i < n) (hn : n < 2 ^ 31) : MI l G yJ3_checkIndex_8e157 cJ3_checkIndex_8e157 3 .int 0 0 0 [.int (nI i), .int (nI n), .null] X (fun r (_ : Unit) => r = nI i) (fun _ => X) := by
  refine mt_of hF (by decide) (Nat.le_of_ble_eq_true rfl) ?_
  intro p e s m below meth c C hin ls hl H locs hw
  have hl : lv_has ls 3 [(0, .int (nI i)), (1, .int (nI n)), (2, .null)] := hl
  refine lv_iload_n C.1 C.2.1 dJ3_checkIndex_8e157_0 rfl (lv_at hl 0 rfl) ?_
  refine lv_if_lt (tgt := 9) C.1 C.2.1 dJ3_checkIndex_8e157_1 (by decide) (fun c_1 => absurd c_1 (nI_pos (by omega))) (fun c_1 => ?_)
  refine lv_iload_n C.1 C.2.1 dJ3_checkIndex_8e157_4 rfl (lv_at hl 0 rfl) ?_
  refine lv_iload_n C.1 C.2.1 dJ3_checkIndex_8e157_5 rfl (lv_at hl 1 rfl) ?_
  refine lv_icmp_lt (tgt := 16) C.1 C.2.1 dJ3_checkIndex_8e157_6 (by decide) (fun c_6 => ?_) (fun c_6 => absurd ((nI_ltI (by omega) (by omega)).mpr hi) c_6)
  refine lv_iload_n C.1 C.2.1 dJ3_checkIndex_8e157_16 rfl (lv_at hl 0 rfl) ?_
  exact r_iret C hw rfl rfl () (rfl) rfl (Nat.le_of_ble_eq_true rfl) (Nat.le_of_ble_eq_true rfl) dJ3_checkIndex_8e157_17

set_option maxHeartbeats 4000000 in
set_option maxRecDepth 100000 in
theorem j_ckR {l : Launch} {G : Gx} (hF : SF l G) {X : va_W} {t : Nat} {i n : Nat} (hi : i < n) (hn : n < 2 ^ 31) : MI l G yJ3_checkIndex_8e157 cJ3_checkIndex_8e157 3 .int 0 0 0 [.int (nI i), .int (nI n), .ref t] X (fun r (_ : Unit) => r = nI i) (fun _ => X) := by
  refine mt_of hF (by decide) (Nat.le_of_ble_eq_true rfl) ?_
  intro p e s m below meth c C hin ls hl H locs hw
  have hl : lv_has ls 3 [(0, .int (nI i)), (1, .int (nI n)), (2, .ref t)] := hl
  refine lv_iload_n C.1 C.2.1 dJ3_checkIndex_8e157_0 rfl (lv_at hl 0 rfl) ?_
  refine lv_if_lt (tgt := 9) C.1 C.2.1 dJ3_checkIndex_8e157_1 (by decide) (fun c_1 => absurd c_1 (nI_pos (by omega))) (fun c_1 => ?_)
  refine lv_iload_n C.1 C.2.1 dJ3_checkIndex_8e157_4 rfl (lv_at hl 0 rfl) ?_
  refine lv_iload_n C.1 C.2.1 dJ3_checkIndex_8e157_5 rfl (lv_at hl 1 rfl) ?_
  refine lv_icmp_lt (tgt := 16) C.1 C.2.1 dJ3_checkIndex_8e157_6 (by decide) (fun c_6 => ?_) (fun c_6 => absurd ((nI_ltI (by omega) (by omega)).mpr hi) c_6)
  refine lv_iload_n C.1 C.2.1 dJ3_checkIndex_8e157_16 rfl (lv_at hl 0 rfl) ?_
  exact r_iret C hw rfl rfl () (rfl) rfl (Nat.le_of_ble_eq_true rfl) (Nat.le_of_ble_eq_true rfl) dJ3_checkIndex_8e157_17

set_option maxHeartbeats 4000000 in
set_option maxRecDepth 100000 in
theorem j_ckI {l : Launch} {G : Gx} (hF : SF l G) {X : va_W} {i n : Nat} (hi : i < n) (hn : n < 2 ^ 31) : MV l G yJ0_checkIndex_df160 cJ0_checkIndex_df160 2 1 0 0 [.int (nI i), .int (nI n)] X (fun (_ : Unit) => True) (fun _ => X) := by
  refine mt_of hF (by decide) (Nat.le_of_ble_eq_true rfl) ?_
  intro p e s m below meth c C hin ls hl H locs hw
  have hl : lv_has ls 2 [(0, .int (nI i)), (1, .int (nI n))] := hl
  refine lv_iload_n C.1 C.2.1 dJ0_checkIndex_df160_0 rfl (lv_at hl 0 rfl) ?_
  refine lv_iload_n C.1 C.2.1 dJ0_checkIndex_df160_1 rfl (lv_at hl 1 rfl) ?_
  refine r_siof C hw fl_J0_1053 dJ0_checkIndex_df160_2 (fun vf hvf => ?_)
  rcases hvf with rfl | ⟨tf, rfl⟩
  · refine r_si C hw (j_ckN hF (X := X) hi hn) ml_J0_1059 yf_J3_checkIndex_8e157 (As := [.int (nI i), .int (nI n), .null]) rfl rfl ⟨(Nat.le_of_ble_eq_true rfl), (Nat.le_of_ble_eq_true rfl)⟩ ⟨(Nat.le_of_ble_eq_true rfl), (Nat.le_of_ble_eq_true rfl)⟩ hl.1 (Nat.le_of_ble_eq_true rfl) dJ0_checkIndex_df160_5 (fun r_5 _ H locs hp_5 hw => ?_)
    obtain rfl : r_5 = nI i := hp_5
    replace hw : WH G s (X) H locs := hw
    refine lv_pop C.1 C.2.1 dJ0_checkIndex_df160_8 rfl ?_
    exact r_vret C hw rfl () (trivial) rfl (Nat.le_of_ble_eq_true rfl) (Nat.le_of_ble_eq_true rfl) dJ0_checkIndex_df160_9
  · refine r_si C hw (j_ckR hF (X := X) (t := tf) hi hn) ml_J0_1059 yf_J3_checkIndex_8e157 (As := [.int (nI i), .int (nI n), .ref tf]) rfl rfl ⟨(Nat.le_of_ble_eq_true rfl), (Nat.le_of_ble_eq_true rfl)⟩ ⟨(Nat.le_of_ble_eq_true rfl), (Nat.le_of_ble_eq_true rfl)⟩ hl.1 (Nat.le_of_ble_eq_true rfl) dJ0_checkIndex_df160_5 (fun r_5 _ H locs hp_5 hw => ?_)
    obtain rfl : r_5 = nI i := hp_5
    replace hw : WH G s (X) H locs := hw
    refine lv_pop C.1 C.2.1 dJ0_checkIndex_df160_8 rfl ?_
    exact r_vret C hw rfl () (trivial) rfl (Nat.le_of_ble_eq_true rfl) (Nat.le_of_ble_eq_true rfl) dJ0_checkIndex_df160_9

set_option maxHeartbeats 4000000 in
set_option maxRecDepth 100000 in
theorem j_charAt1 {l : Launch} {G : Gx} (hF : SF l G) {X : va_W} {v i n : Nat} {f : Nat → Int32} (hi : i < n) (hn : n < 2 ^ 31) (h4 : va_T .byte v n (fun j => .int (f j)) (gA G) G.2.1 G.2.1.heap) : MI l G yJ1_charAt_3b067 cJ1_charAt_3b067 2 .char 2 0 0 [.ref v, .int (nI i)] X (fun r (_ : Unit) => r = f i &&& 255) (fun _ => X) := by
  refine mt_of hF (by decide) (Nat.le_of_ble_eq_true rfl) ?_
  intro p e s m below meth c C hin ls hl H locs hw
  have hl : lv_has ls 2 [(0, .ref v), (1, .int (nI i))] := hl
  refine lv_iload_n C.1 C.2.1 dJ1_charAt_3b067_0 rfl (lv_at hl 1 rfl) ?_
  refine lv_aload_n C.1 C.2.1 dJ1_charAt_3b067_1 rfl (lv_at hl 0 rfl) ?_
  refine r_tlen C hw h4 dJ1_charAt_3b067_2 ?_
  refine r_sv C hw (j_ckI hF (X := X) hi hn) ml_J1_9 yf_J0_checkIndex_df160 (As := [.int (nI i), .int (nI n)]) rfl rfl ⟨(Nat.le_of_ble_eq_true rfl), (Nat.le_of_ble_eq_true rfl)⟩ ⟨(Nat.le_of_ble_eq_true rfl), (Nat.le_of_ble_eq_true rfl)⟩ hl.1 (Nat.le_of_ble_eq_true rfl) dJ1_charAt_3b067_3 (fun _ H locs hp_3 hw => ?_)
  replace hw : WH G s (X) H locs := hw
  refine lv_aload_n C.1 C.2.1 dJ1_charAt_3b067_6 rfl (lv_at hl 0 rfl) ?_
  refine lv_iload_n C.1 C.2.1 dJ1_charAt_3b067_7 rfl (lv_at hl 1 rfl) ?_
  refine r_tb C hw h4 (i := i) (by omega) (by omega) dJ1_charAt_3b067_8 ?_
  refine lv_sipush (v := 255) C.1 C.2.1 dJ1_charAt_3b067_9 (by decide) ?_
  refine lv_iand C.1 C.2.1 dJ1_charAt_3b067_12 ?_
  refine lv_i2c (v := (((f i) &&& 255).toUInt32 % 65536).toInt32) C.1 C.2.1 dJ1_charAt_3b067_13 rfl ?_
  exact r_iret C hw rfl (by rw [sc_c2]; exact sc_nar _) () (sc_c2 _) rfl (Nat.le_of_ble_eq_true rfl) (Nat.le_of_ble_eq_true rfl) dJ1_charAt_3b067_14

set_option maxHeartbeats 4000000 in
set_option maxRecDepth 100000 in
theorem j_charAt {l : Launch} {G : Gx} (hF : SF l G) {X : va_W} {a : Nat} {L : List Int32} {i : Nat} (hi : i < L.length) (hL : L.length < 2 ^ 31) (hs : StrAt G a L) : MI l G yJ0_charAt_5068e cJ0_charAt_5068e 2 .char 3 0 0 [.ref a, .int (nI i)] X (fun r (_ : Unit) => r = L.getD i 0 &&& 255) (fun _ => X) := by
  refine mt_of hF (by decide) (Nat.le_of_ble_eq_true rfl) ?_
  intro p e s m below meth c C hin ls hl H locs hw
  have hl : lv_has ls 2 [(0, .ref a), (1, .int (nI i))] := hl
  have hs0 := hs
  obtain ⟨v, h1, h2, h3, h4⟩ := hs
  have hs := hs0
  refine lv_aload_n C.1 C.2.1 dJ0_charAt_5068e_0 rfl (lv_at hl 0 rfl) ?_
  refine r_Vi C hw (j_isLatin1 hF (X := X) hs) ml_J0_492 yf_J0_isLatin1_aae02 h1 (As := []) rfl rfl ⟨(Nat.le_of_ble_eq_true rfl), (Nat.le_of_ble_eq_true rfl)⟩ ⟨(Nat.le_of_ble_eq_true rfl), (Nat.le_of_ble_eq_true rfl)⟩ hl.1 (Nat.le_of_ble_eq_true rfl) dJ0_charAt_5068e_1 (fun r_1 _ H locs hp_1 hw => ?_)
  obtain rfl : r_1 = 1 := hp_1
  replace hw : WH G s (X) H locs := hw
  refine lv_if_eq (tgt := 16) C.1 C.2.1 dJ0_charAt_5068e_4 (by decide) (fun c_4 => absurd c_4 (by decide)) (fun c_4 => ?_)
  refine lv_aload_n C.1 C.2.1 dJ0_charAt_5068e_7 rfl (lv_at hl 0 rfl) ?_
  refine r_strf C hw h3 fl_J0_9 dJ0_charAt_5068e_8 ?_
  refine lv_iload_n C.1 C.2.1 dJ0_charAt_5068e_11 rfl (lv_at hl 1 rfl) ?_
  refine r_si C hw (j_charAt1 hF (X := X) hi hL h4) ml_J0_495 yf_J1_charAt_3b067 (As := [.ref v, .int (nI i)]) rfl rfl ⟨(Nat.le_of_ble_eq_true rfl), (Nat.le_of_ble_eq_true rfl)⟩ ⟨(Nat.le_of_ble_eq_true rfl), (Nat.le_of_ble_eq_true rfl)⟩ hl.1 (Nat.le_of_ble_eq_true rfl) dJ0_charAt_5068e_12 (fun r_12 _ H locs hp_12 hw => ?_)
  obtain rfl : r_12 = L.getD i 0 &&& 255 := hp_12
  replace hw : WH G s (X) H locs := hw
  exact r_iret C hw rfl (sc_nar _) () (rfl) rfl (Nat.le_of_ble_eq_true rfl) (Nat.le_of_ble_eq_true rfl) dJ0_charAt_5068e_15

