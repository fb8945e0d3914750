/-! A StringBuilder: its object and its bytes -/
def sbW (G : Gx) (b v m : Nat) (f : Nat → Int32) (mb n : Int32) : va_W := [(b, .inr (1, [.ref v, .int 0, .int mb, .int n])), (v, .inl (G.2.2.1 1, m, .inl f))]
theorem vb_nI {k : Nat} (h : k < 128) : vp_nar .byte (nI k) = nI k := by
  have key : ∀ k, k < 128 → vp_nar .byte (nI k) = nI k := by decide +kernel
  exact key k h
theorem vb_i2b {k : Nat} (h : k < 128) : vp_nar .byte ((nI k).toInt8.toInt32) = nI k := by
  have key : ∀ k, k < 128 → vp_nar .byte ((nI k).toInt8.toInt32) = nI k := by decide +kernel
  exact key k h
theorem fb_nI {k : Nat} (h : k < 128) : fits .byte (.int (nI k)) = true := by
  have key : ∀ k, k < 128 → fits .byte (.int (nI k)) = true := by decide +kernel
  exact key k h
theorem le_sub {a b : Nat} (ha : a < 2 ^ 30) (hb : b < 2 ^ 30) : nI a - nI b ≤ 0 ↔ a ≤ b := by
  rw [Int32.le_iff_toInt_le, pk_sub_toInt ha hb, Int32.toInt_zero]
  omega
theorem dec_nI {k : Nat} (h : 1 ≤ k) : nI k + Int32.ofInt (-1) = nI (k - 1) := by
  have e1 : nI (k - 1) + 1 = nI k := by rw [nI_1]; congr 1; omega
  rw [← e1, show Int32.ofInt (-1) = -1 from rfl, Int32.add_assoc, show (1 : Int32) + -1 = 0 from by decide, Int32.add_zero]

set_option maxHeartbeats 4000000 in
set_option maxRecDepth 100000 in
theorem j5_length {l : Launch} {G : Gx} (hF : SF l G) {X : va_W} {b v cp n : Nat} {f : Nat → Int32} {mb : Int32} : MI l G yJ5_length_8abf5 cJ5_length_8abf5 1 .int 0 0 0 [.ref b] (sbW G b v cp f mb (nI n) ++ X) (fun r _ => r = nI n) (fun _ : Unit => sbW G b v cp f mb (nI n) ++ X) := by
  refine mt_of hF (by decide) (Nat.le_of_ble_eq_true rfl) ?_
  intro p e s m below meth c C hin ls hl H locs hw
  have hl : lv_has ls 1 [(0, .ref b)] := hl
  refine lv_aload_n C.1 C.2.1 dJ5_length_8abf5_0 rfl (lv_at hl 0 rfl) ?_
  refine r_get C hw 0 rfl rfl in_J4 3 (by decide) fl_J5_79 rfl (v := .int (nI n)) rfl dJ5_length_8abf5_1 ?_
  exact r_iret C hw rfl rfl () (rfl) rfl (Nat.le_of_ble_eq_true rfl) (Nat.le_of_ble_eq_true rfl) dJ5_length_8abf5_4

set_option maxHeartbeats 4000000 in
set_option maxRecDepth 100000 in
theorem j5_isLatin1 {l : Launch} {G : Gx} (hF : SF l G) {X : va_W} {b v cp n : Nat} {f : Nat → Int32} {mb : Int32} : MI l G yJ5_isLatin1_aae02 cJ5_isLatin1_aae02 1 .boolean 0 0 0 [.ref b] (sbW G b v cp f mb (nI n) ++ X) (fun r _ => r = 1) (fun _ : Unit => sbW G b v cp f mb (nI n) ++ X) := by
  refine mt_of hF (by decide) (Nat.le_of_ble_eq_true rfl) ?_
  intro p e s m below meth c C hin ls hl H locs hw
  have hl : lv_has ls 1 [(0, .ref b)] := hl
  refine r_comp C hw fl_J5_18 dJ5_isLatin1_aae02_0 ?_
  refine lv_if_eq (tgt := 17) C.1 C.2.1 dJ5_isLatin1_aae02_3 (by decide) (fun c_3 => absurd c_3 (by decide)) (fun c_3 => ?_)
  refine lv_aload_n C.1 C.2.1 dJ5_isLatin1_aae02_6 rfl (lv_at hl 0 rfl) ?_
  refine r_get C hw 0 rfl rfl in_J4 1 (by decide) fl_J5_22 rfl (v := .int 0) rfl dJ5_isLatin1_aae02_7 ?_
  refine lv_if_ne (tgt := 17) C.1 C.2.1 dJ5_isLatin1_aae02_10 (by decide) (fun c_10 => absurd (by decide) c_10) (fun c_10 => ?_)
  refine lv_iconst (v := 1) C.1 C.2.1 dJ5_isLatin1_aae02_13 (by decide) ?_
  refine lv_goto (tgt := 18) C.1 C.2.1 dJ5_isLatin1_aae02_14 (by decide) ?_
  exact r_iret C hw rfl rfl () (rfl) rfl (Nat.le_of_ble_eq_true rfl) (Nat.le_of_ble_eq_true rfl) dJ5_isLatin1_aae02_18

set_option maxHeartbeats 4000000 in
set_option maxRecDepth 100000 in
theorem j8_newLength {l : Launch} {G : Gx} (hF : SF l G) {X : va_W} {cp g c2 : Nat} (h0 : 0 < cp + max g c2) (h1 : cp + max g c2 < 100000) : MI l G yJ8_newLength_cabcc cJ8_newLength_cabcc 4 .int 1 0 0 [.int (nI cp), .int (nI g), .int (nI c2)] X (fun r (_ : Unit) => r = nI (cp + max g c2)) (fun _ => X) := by
  refine mt_of hF (by decide) (Nat.le_of_ble_eq_true rfl) ?_
  intro p e s m below meth c C hin ls hl H locs hw
  have hl : lv_has ls 4 [(0, .int (nI cp)), (1, .int (nI g)), (2, .int (nI c2))] := hl
  refine lv_iload_n C.1 C.2.1 dJ8_newLength_cabcc_0 rfl (lv_at hl 0 rfl) ?_
  refine lv_iload_n C.1 C.2.1 dJ8_newLength_cabcc_1 rfl (lv_at hl 1 rfl) ?_
  refine lv_iload_n C.1 C.2.1 dJ8_newLength_cabcc_2 rfl (lv_at hl 2 rfl) ?_
  refine r_mmax C ml_J8_194 hl.1 (Nat.le_of_ble_eq_true rfl) (Nat.le_of_ble_eq_true rfl) (Nat.le_of_ble_eq_true rfl) (Nat.le_of_ble_eq_true rfl) dJ8_newLength_cabcc_3 ?_
  refine r_toe (show _ = nI (max g c2) from mmax_nI (by omega) (by omega)) ?_
  refine lv_iadd C.1 C.2.1 dJ8_newLength_cabcc_6 ?_
  refine r_toe (show _ = nI (cp + max g c2) from nI_add _ _) ?_
  refine lv_istore_n (lv' := [(3, .int (nI (cp + max g c2))), (0, .int (nI cp)), (1, .int (nI g)), (2, .int (nI c2))]) C.1 C.2.1 dJ8_newLength_cabcc_7 rfl hl (by decide) rfl (fun ls hl => ?_)
  refine lv_iconst (v := 0) C.1 C.2.1 dJ8_newLength_cabcc_8 (by decide) ?_
  refine lv_iload_n C.1 C.2.1 dJ8_newLength_cabcc_9 rfl (lv_at hl 0 rfl) ?_
  refine lv_icmp_ge (tgt := 21) C.1 C.2.1 dJ8_newLength_cabcc_10 (by decide) (fun c_10 => absurd c_10 ((nI_ge (a := 0) h0 (by omega)))) (fun c_10 => ?_)
  refine lv_iload_n C.1 C.2.1 dJ8_newLength_cabcc_13 rfl (lv_at hl 0 rfl) ?_
  refine lv_ldc (v := 2147483639) C.1 C.2.1 C.2.2.2.2.1 (C.2.2.2.2.2.1 _ cst_J8) dJ8_newLength_cabcc_14 ?_
  refine lv_icmp_gt (tgt := 21) C.1 C.2.1 dJ8_newLength_cabcc_16 (by decide) (fun c_16 => absurd c_16 ((nI_nlt (a := 2147483639) (by omega) (by decide)))) (fun c_16 => ?_)
  refine lv_iload_n C.1 C.2.1 dJ8_newLength_cabcc_19 rfl (lv_at hl 0 rfl) ?_
  exact r_iret C hw rfl rfl () (rfl) rfl (Nat.le_of_ble_eq_true rfl) (Nat.le_of_ble_eq_true rfl) dJ8_newLength_cabcc_20

set_option maxHeartbeats 4000000 in
set_option maxRecDepth 100000 in
theorem j5_newCapacity {l : Launch} {G : Gx} (hF : SF l G) {X : va_W} {b v cp n : Nat} {f : Nat → Int32} {mb : Int32} {q : Nat} (h1 : cp < q) (h2 : q ≤ 2 * cp + 2) (h3 : cp < 1000) : MI l G yJ5_newCapacity_0f7a4 cJ5_newCapacity_0f7a4 6 .int 2 0 0 [.ref b, .int (nI q)] (sbW G b v cp f mb (nI n) ++ X) (fun r _ => r = nI (2 * cp + 2)) (fun _ : Unit => sbW G b v cp f mb (nI n) ++ X) := by
  refine mt_of hF (by decide) (Nat.le_of_ble_eq_true rfl) ?_
  intro p e s m below meth c C hin ls hl H locs hw
  have hl : lv_has ls 6 [(0, .ref b), (1, .int (nI q))] := hl
  refine lv_aload_n C.1 C.2.1 dJ5_newCapacity_0f7a4_0 rfl (lv_at hl 0 rfl) ?_
  refine r_get C hw 0 rfl rfl in_J4 0 (by decide) fl_J5_15 rfl (v := .ref v) rfl dJ5_newCapacity_0f7a4_1 ?_
  refine r_alen C hw 1 1 rfl rfl dJ5_newCapacity_0f7a4_4 ?_
  refine lv_istore_n (lv' := [(2, .int (nI cp)), (0, .ref b), (1, .int (nI q))]) C.1 C.2.1 dJ5_newCapacity_0f7a4_5 rfl hl (by decide) rfl (fun ls hl => ?_)
  refine lv_iload_n C.1 C.2.1 dJ5_newCapacity_0f7a4_6 rfl (lv_at hl 2 rfl) ?_
  refine lv_aload_n C.1 C.2.1 dJ5_newCapacity_0f7a4_7 rfl (lv_at hl 1 rfl) ?_
  refine r_get C hw 0 rfl rfl in_J4 1 (by decide) fl_J5_22 rfl (v := .int 0) rfl dJ5_newCapacity_0f7a4_8 ?_
  refine lv_ishl C.1 C.2.1 dJ5_newCapacity_0f7a4_11 ?_
  refine r_toe (sb_shl0 (nI q)) ?_
  refine lv_istore_n (lv' := [(3, .int (nI q)), (2, .int (nI cp)), (0, .ref b), (1, .int (nI q))]) C.1 C.2.1 dJ5_newCapacity_0f7a4_12 rfl hl (by decide) rfl (fun ls hl => ?_)
  refine lv_iload_n C.1 C.2.1 dJ5_newCapacity_0f7a4_13 rfl (lv_at hl 0 rfl) ?_
  refine lv_iload_n C.1 C.2.1 dJ5_newCapacity_0f7a4_14 rfl (lv_at hl 1 rfl) ?_
  refine lv_isub C.1 C.2.1 dJ5_newCapacity_0f7a4_15 ?_
  refine r_toe (show _ = nI (q - cp) from pk_sub (by omega)) ?_
  refine lv_istore (lv' := [(4, .int (nI (q - cp))), (3, .int (nI q)), (2, .int (nI cp)), (0, .ref b), (1, .int (nI q))]) C.1 C.2.1 dJ5_newCapacity_0f7a4_16 hl (by decide) rfl (fun ls hl => ?_)
  refine lv_iload_n C.1 C.2.1 dJ5_newCapacity_0f7a4_18 rfl (lv_at hl 2 rfl) ?_
  refine lv_iload C.1 C.2.1 dJ5_newCapacity_0f7a4_19 (lv_at hl 0 rfl) ?_
  refine lv_iload_n C.1 C.2.1 dJ5_newCapacity_0f7a4_21 rfl (lv_at hl 2 rfl) ?_
  refine lv_iconst (v := 2) C.1 C.2.1 dJ5_newCapacity_0f7a4_22 (by decide) ?_
  refine lv_aload_n C.1 C.2.1 dJ5_newCapacity_0f7a4_23 rfl (lv_at hl 3 rfl) ?_
  refine r_get C hw 0 rfl rfl in_J4 1 (by decide) fl_J5_22 rfl (v := .int 0) rfl dJ5_newCapacity_0f7a4_24 ?_
  refine lv_ishl C.1 C.2.1 dJ5_newCapacity_0f7a4_27 ?_
  refine r_toe (sb_shl0 2) ?_
  refine lv_iadd C.1 C.2.1 dJ5_newCapacity_0f7a4_28 ?_
  refine r_toe (show _ = nI (cp + 2) from nI_add cp 2) ?_
  refine r_si C hw (j8_newLength hF (X := sbW G b v cp f mb (nI n) ++ X) (cp := cp) (g := q - cp) (c2 := cp + 2) (by omega) (by omega)) ml_J5_114 yf_J8_newLength_cabcc (As := [.int (nI cp), .int (nI (q - cp)), .int (nI (cp + 2))]) rfl rfl ⟨(Nat.le_of_ble_eq_true rfl), (Nat.le_of_ble_eq_true rfl)⟩ ⟨(Nat.le_of_ble_eq_true rfl), (Nat.le_of_ble_eq_true rfl)⟩ hl.1 (Nat.le_of_ble_eq_true rfl) dJ5_newCapacity_0f7a4_29 (fun r_29 _ H locs hp_29 hw => ?_)
  obtain rfl : r_29 = nI (cp + max (q - cp) (cp + 2)) := hp_29
  replace hw : WH G s (sbW G b v cp f mb (nI n) ++ X) H locs := hw
  refine r_toe (show _ = nI (2 * cp + 2) from by congr 1; omega) ?_
  refine lv_istore (lv' := [(5, .int (nI (2 * cp + 2))), (4, .int (nI (q - cp))), (3, .int (nI q)), (2, .int (nI cp)), (0, .ref b), (1, .int (nI q))]) C.1 C.2.1 dJ5_newCapacity_0f7a4_32 hl (by decide) rfl (fun ls hl => ?_)
  refine lv_iload C.1 C.2.1 dJ5_newCapacity_0f7a4_34 (lv_at hl 0 rfl) ?_
  refine lv_ldc (v := 2147483647) C.1 C.2.1 C.2.2.2.2.1 (C.2.2.2.2.2.1 _ cst_J5) dJ5_newCapacity_0f7a4_36 ?_
  refine lv_icmp_ne (tgt := 51) C.1 C.2.1 dJ5_newCapacity_0f7a4_38 (by decide) (fun c_38 => ?_) (fun c_38 => absurd c_38 (fun q9 => absurd ((nI_eq (a := 2 * cp + 2) (b := 2147483647) (by omega) (by decide)).mp q9) (by omega)))
  refine lv_iload C.1 C.2.1 dJ5_newCapacity_0f7a4_51 (lv_at hl 0 rfl) ?_
  refine lv_aload_n C.1 C.2.1 dJ5_newCapacity_0f7a4_53 rfl (lv_at hl 4 rfl) ?_
  refine r_get C hw 0 rfl rfl in_J4 1 (by decide) fl_J5_22 rfl (v := .int 0) rfl dJ5_newCapacity_0f7a4_54 ?_
  refine lv_ishr C.1 C.2.1 dJ5_newCapacity_0f7a4_57 ?_
  refine r_toe (sb_shr0 (nI (2 * cp + 2))) ?_
  exact r_iret C hw rfl rfl () (rfl) rfl (Nat.le_of_ble_eq_true rfl) (Nat.le_of_ble_eq_true rfl) dJ5_newCapacity_0f7a4_58

set_option maxHeartbeats 4000000 in
set_option maxRecDepth 100000 in
theorem j7_copyOf {l : Launch} {G : Gx} (hF : SF l G) {w0 : va_W} {v cp q : Nat} {f : Nat → Int32} (q0 : Nat) (he0 : w0[q0]? = some (v, .inl (G.2.2.1 1, cp, .inl f))) (h1 : cp < q) (h2 : q ≤ 70) (hf : sb_Fit f) : MR l G yJ7_copyOf_9075b cJ7_copyOf_9075b 3 (.array .byte) 1 1 70 [.ref v, .int (nI q)] w0 (fun _ => True) (fun (_ : Unit) qn => (qn, .inl (G.2.2.1 1, q, .inl (va_cpy f (fun _ => 0) 0 0 cp))) :: w0) := by
  refine mt_of hF (by decide) (Nat.le_of_ble_eq_true rfl) ?_
  intro p e s m below meth c C hin ls hl H locs hw
  have hl : lv_has ls 3 [(0, .ref v), (1, .int (nI q))] := hl
  refine lv_iload_n C.1 C.2.1 dJ7_copyOf_9075b_0 rfl (lv_at hl 1 rfl) ?_
  refine lv_aload_n C.1 C.2.1 dJ7_copyOf_9075b_1 rfl (lv_at hl 0 rfl) ?_
  refine r_alen C hw 1 q0 he0 rfl dJ7_copyOf_9075b_2 ?_
  refine lv_icmp_ne (tgt := 14) C.1 C.2.1 dJ7_copyOf_9075b_3 (by decide) (fun c_3 => ?_) (fun c_3 => absurd ((nI_eq (a := q) (b := cp) (by omega) (by omega)).mp c_3) (by omega))
  refine lv_iload_n C.1 C.2.1 dJ7_copyOf_9075b_14 rfl (lv_at hl 1 rfl) ?_
  refine r_newa C hw (atype := .byte) 1 rfl rfl ac_byte (n := q) rfl (by omega) (w' := fun z => (z, .inl (G.2.2.1 1, q, .inl (fun _ => 0))) :: w0) (fun z => List.perm_append_singleton _ _) (show q * 1 ≤ _ by omega) (Nat.le_of_ble_eq_true rfl) (show 0 + q ≤ 70 by omega) dJ7_copyOf_9075b_15 (fun qn H locs hw => ?_)
  refine lv_astore_n (lv' := [(2, .ref qn), (0, .ref v), (1, .int (nI q))]) C.1 C.2.1 dJ7_copyOf_9075b_17 rfl hl (by decide) rfl (fun ls hl => ?_)
  refine lv_aload_n C.1 C.2.1 dJ7_copyOf_9075b_18 rfl (lv_at hl 1 rfl) ?_
  refine lv_iconst (v := 0) C.1 C.2.1 dJ7_copyOf_9075b_19 (by decide) ?_
  refine lv_aload_n C.1 C.2.1 dJ7_copyOf_9075b_20 rfl (lv_at hl 0 rfl) ?_
  refine lv_iconst (v := 0) C.1 C.2.1 dJ7_copyOf_9075b_21 (by decide) ?_
  refine lv_aload_n C.1 C.2.1 dJ7_copyOf_9075b_22 rfl (lv_at hl 1 rfl) ?_
  refine r_alen C hw 1 (q0 + 1) he0 rfl dJ7_copyOf_9075b_23 ?_
  refine lv_iload_n C.1 C.2.1 dJ7_copyOf_9075b_24 rfl (lv_at hl 2 rfl) ?_
  refine r_mmin C ml_J7_304 hl.1 (Nat.le_of_ble_eq_true rfl) (Nat.le_of_ble_eq_true rfl) (Nat.le_of_ble_eq_true rfl) (show 0 + q ≤ 70 by omega) dJ7_copyOf_9075b_25 ?_
  refine r_toe (show _ = nI cp from (mmin_nI (by omega) (by omega)).trans (by congr 1; omega)) ?_
  refine r_copyi C hw ml_J7_150 (q0 + 1) 0 1 (sp := 0) (dp := 0) (k := cp) he0 rfl (ty := .byte) rfl rfl (by omega) (by omega) (by omega) (by omega) (fun i _ => hf _) (w' := (qn, .inl (G.2.2.1 1, q, .inl (va_cpy f (fun _ => 0) 0 0 cp))) :: w0) rfl hl.1 (Nat.le_of_ble_eq_true rfl) (by decide) dJ7_copyOf_9075b_28 (fun H locs hw => ?_)
  refine lv_aload_n C.1 C.2.1 dJ7_copyOf_9075b_31 rfl (lv_at hl 0 rfl) ?_
  exact r_rret C hw rfl (Or.inr ⟨_, rfl⟩) () (trivial) rfl (by decide) (show 0 + q ≤ 70 by omega) dJ7_copyOf_9075b_32

