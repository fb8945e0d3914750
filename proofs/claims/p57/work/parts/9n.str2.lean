/-! A builder's text as a String -/
set_option maxHeartbeats 4000000 in
set_option maxRecDepth 100000 in
theorem j7_chkLen {l : Launch} {G : Gx} (hF : SF l G) {X : va_W} {n : Nat} (hn : n < 2 ^ 31) : MV l G yJ7_checkLength_df160 cJ7_checkLength_df160 2 0 0 0 [.int 0, .int (nI n)] X (fun _ => True) (fun _ : Unit => X) := by
  refine mt_of hF (by decide) (Nat.le_of_ble_eq_true rfl) ?_
  intro p e s m below meth c C hin ls hl H locs hw
  have hl : lv_has ls 2 [(0, .int 0), (1, .int (nI n))] := hl
  refine lv_iload_n C.1 C.2.1 dJ7_checkLength_df160_0 rfl (lv_at hl 1 rfl) ?_
  refine lv_iload_n C.1 C.2.1 dJ7_checkLength_df160_1 rfl (lv_at hl 0 rfl) ?_
  refine lv_icmp_ge (tgt := 37) C.1 C.2.1 dJ7_checkLength_df160_2 (by decide) (fun c_2 => ?_) (fun c_2 => absurd (nI_pos' hn) c_2)
  exact r_vret C hw rfl () trivial rfl (Nat.le_of_ble_eq_true rfl) (Nat.le_of_ble_eq_true rfl) dJ7_checkLength_df160_37
set_option maxHeartbeats 4000000 in
set_option maxRecDepth 100000 in
theorem j7_rangeB {l : Launch} {G : Gx} (hF : SF l G) {w0 : va_W} {v cp n : Nat} {f : Nat → Int32} (q0 : Nat) (he0 : w0[q0]? = some (v, .inl (G.2.2.1 1, cp, .inl f))) (h1 : n ≤ cp) (h2 : cp ≤ 70) (hf : sb_Fit f) : MR l G yJ7_copyOfRangeByte_39247 cJ7_copyOfRangeByte_39247 5 (.array .byte) 1 1 70 [.ref v, .int 0, .int (nI n)] w0 (fun _ => True) (fun (_ : Unit) qn => (qn, .inl (G.2.2.1 1, n, .inl (va_cpy f (fun _ => 0) 0 0 n))) :: w0) := by
  refine mt_of hF (by decide) (Nat.le_of_ble_eq_true rfl) ?_
  intro p e s m below meth c C hin ls hl H locs hw
  have hl : lv_has ls 5 [(0, .ref v), (1, .int 0), (2, .int (nI n))] := hl
  refine lv_iload_n C.1 C.2.1 dJ7_copyOfRangeByte_39247_0 rfl (lv_at hl 1 rfl) ?_
  refine lv_iload_n C.1 C.2.1 dJ7_copyOfRangeByte_39247_1 rfl (lv_at hl 2 rfl) ?_
  refine r_sv C hw (j7_chkLen hF (X := w0) (n := n) (by omega)) ml_J7_343 yf_J7_checkLength_df160 (As := [.int 0, .int (nI n)]) rfl rfl ⟨(Nat.le_of_ble_eq_true rfl), (Nat.le_of_ble_eq_true rfl)⟩ ⟨(Nat.le_of_ble_eq_true rfl), (Nat.le_of_ble_eq_true rfl)⟩ hl.1 (Nat.le_of_ble_eq_true rfl) dJ7_copyOfRangeByte_39247_2 (fun _ H locs _ hw => ?_)
  replace hw : WH G s w0 H locs := hw
  refine lv_iload_n C.1 C.2.1 dJ7_copyOfRangeByte_39247_5 rfl (lv_at hl 2 rfl) ?_
  refine lv_iload_n C.1 C.2.1 dJ7_copyOfRangeByte_39247_6 rfl (lv_at hl 1 rfl) ?_
  refine lv_isub C.1 C.2.1 dJ7_copyOfRangeByte_39247_7 ?_
  refine r_toe (show _ = nI n from (pk_sub (a := n) (b := 0) (by omega)).trans (by rw [Nat.sub_zero])) ?_
  refine lv_istore_n (lv' := [(3, .int (nI n)), (0, .ref v), (1, .int 0), (2, .int (nI n))]) C.1 C.2.1 dJ7_copyOfRangeByte_39247_8 rfl hl (by decide) rfl (fun ls hl => ?_)
  refine lv_iload_n C.1 C.2.1 dJ7_copyOfRangeByte_39247_9 rfl (lv_at hl 0 rfl) ?_
  refine r_newa C hw (atype := .byte) 1 rfl rfl ac_byte (n := n) rfl (by omega) (w' := fun z => (z, .inl (G.2.2.1 1, n, .inl (fun _ => 0))) :: w0) (fun z => List.perm_append_singleton _ _) (show n * 1 ≤ _ by omega) (Nat.le_of_ble_eq_true rfl) (show 0 + n ≤ 70 by omega) dJ7_copyOfRangeByte_39247_10 (fun qn H locs hw => ?_)
  refine lv_astore (lv' := [(4, .ref qn), (3, .int (nI n)), (0, .ref v), (1, .int 0), (2, .int (nI n))]) C.1 C.2.1 dJ7_copyOfRangeByte_39247_12 hl (by decide) rfl (fun ls hl => ?_)
  refine lv_aload_n C.1 C.2.1 dJ7_copyOfRangeByte_39247_14 rfl (lv_at hl 2 rfl) ?_
  refine lv_iload_n C.1 C.2.1 dJ7_copyOfRangeByte_39247_15 rfl (lv_at hl 3 rfl) ?_
  refine lv_aload C.1 C.2.1 dJ7_copyOfRangeByte_39247_16 (lv_at hl 0 rfl) ?_
  refine lv_iconst (v := 0) C.1 C.2.1 dJ7_copyOfRangeByte_39247_18 (by decide) ?_
  refine lv_aload_n C.1 C.2.1 dJ7_copyOfRangeByte_39247_19 rfl (lv_at hl 2 rfl) ?_
  refine r_alen C hw 1 (q0 + 1) he0 rfl dJ7_copyOfRangeByte_39247_20 ?_
  refine lv_iload_n C.1 C.2.1 dJ7_copyOfRangeByte_39247_21 rfl (lv_at hl 3 rfl) ?_
  refine lv_isub C.1 C.2.1 dJ7_copyOfRangeByte_39247_22 ?_
  refine r_toe (show _ = nI cp from (pk_sub (a := cp) (b := 0) (by omega)).trans (by rw [Nat.sub_zero])) ?_
  refine lv_iload_n C.1 C.2.1 dJ7_copyOfRangeByte_39247_23 rfl (lv_at hl 1 rfl) ?_
  refine r_mmin C ml_J7_304 hl.1 (Nat.le_of_ble_eq_true rfl) (Nat.le_of_ble_eq_true rfl) (Nat.le_of_ble_eq_true rfl) (show 0 + n ≤ 70 by omega) dJ7_copyOfRangeByte_39247_24 ?_
  refine r_toe (show _ = nI n from (mmin_nI (by omega) (by omega)).trans (by congr 1; omega)) ?_
  refine r_copyi C hw ml_J7_150 (q0 + 1) 0 1 (sp := 0) (dp := 0) (k := n) he0 rfl (ty := .byte) rfl rfl (by omega) (by omega) (by omega) (by omega) (fun i _ => hf _) (w' := (qn, .inl (G.2.2.1 1, n, .inl (va_cpy f (fun _ => 0) 0 0 n))) :: w0) rfl hl.1 (Nat.le_of_ble_eq_true rfl) (by decide) dJ7_copyOfRangeByte_39247_27 (fun H locs hw => ?_)
  refine lv_aload C.1 C.2.1 dJ7_copyOfRangeByte_39247_30 (lv_at hl 0 rfl) ?_
  exact r_rret C hw rfl (Or.inr ⟨_, rfl⟩) () trivial rfl (by decide) (show 0 + n ≤ 70 by omega) dJ7_copyOfRangeByte_39247_32
set_option maxHeartbeats 4000000 in
set_option maxRecDepth 100000 in
theorem j7_range {l : Launch} {G : Gx} (hF : SF l G) {w0 : va_W} {v cp n : Nat} {f : Nat → Int32} (q0 : Nat) (he0 : w0[q0]? = some (v, .inl (G.2.2.1 1, cp, .inl f))) (h1 : n < cp) (h2 : cp ≤ 70) (hf : sb_Fit f) : MR l G yJ7_copyOfRange_39247 cJ7_copyOfRange_39247 3 (.array .byte) 2 1 70 [.ref v, .int 0, .int (nI n)] w0 (fun _ => True) (fun (_ : Unit) qn => (qn, .inl (G.2.2.1 1, n, .inl (va_cpy f (fun _ => 0) 0 0 n))) :: w0) := by
  refine mt_of hF (by decide) (Nat.le_of_ble_eq_true rfl) ?_
  intro p e s m below meth c C hin ls hl H locs hw
  have hl : lv_has ls 3 [(0, .ref v), (1, .int 0), (2, .int (nI n))] := hl
  refine lv_iload_n C.1 C.2.1 dJ7_copyOfRange_39247_0 rfl (lv_at hl 1 rfl) ?_
  refine lv_if_ne (tgt := 10) C.1 C.2.1 dJ7_copyOfRange_39247_1 (by decide) (fun c_1 => absurd rfl c_1) (fun c_1 => ?_)
  refine lv_iload_n C.1 C.2.1 dJ7_copyOfRange_39247_4 rfl (lv_at hl 2 rfl) ?_
  refine lv_aload_n C.1 C.2.1 dJ7_copyOfRange_39247_5 rfl (lv_at hl 0 rfl) ?_
  refine r_alen C hw 1 q0 he0 rfl dJ7_copyOfRange_39247_6 ?_
  refine lv_icmp_eq (tgt := 17) C.1 C.2.1 dJ7_copyOfRange_39247_7 (by decide) (fun c_7 => absurd ((nI_eq (a := n) (b := cp) (by omega) (by omega)).mp c_7) (by omega)) (fun c_7 => ?_)
  refine lv_aload_n C.1 C.2.1 dJ7_copyOfRange_39247_10 rfl (lv_at hl 0 rfl) ?_
  refine lv_iload_n C.1 C.2.1 dJ7_copyOfRange_39247_11 rfl (lv_at hl 1 rfl) ?_
  refine lv_iload_n C.1 C.2.1 dJ7_copyOfRange_39247_12 rfl (lv_at hl 2 rfl) ?_
  refine r_sr C hw (j7_rangeB hF q0 he0 (by omega) h2 hf) ml_J7_339 yf_J7_copyOfRangeByte_39247 (As := [.ref v, .int 0, .int (nI n)]) rfl rfl ⟨(Nat.le_of_ble_eq_true rfl), (Nat.le_of_ble_eq_true rfl)⟩ ⟨(Nat.le_of_ble_eq_true rfl), (Nat.le_of_ble_eq_true rfl)⟩ hl.1 (Nat.le_of_ble_eq_true rfl) dJ7_copyOfRange_39247_13 (fun _ qn H locs _ hw => ?_)
  exact r_rret C hw rfl (Or.inr ⟨_, rfl⟩) () trivial rfl (Nat.le_of_ble_eq_true rfl) (Nat.le_of_ble_eq_true rfl) dJ7_copyOfRange_39247_16
set_option maxHeartbeats 4000000 in
set_option maxRecDepth 100000 in
theorem j5_getValue {l : Launch} {G : Gx} (hF : SF l G) {X : va_W} {b v cp : Nat} {f : Nat → Int32} {mb nn : Int32} : MR l G yJ5_getValue_6d5f1 cJ5_getValue_6d5f1 1 (.array .byte) 0 0 0 [.ref b] (sbW G b v cp f mb nn ++ X) (fun _ => True) (fun (_ : Unit) ra => sbW G b ra cp f mb nn ++ X) := by
  refine mt_of hF (by decide) (Nat.le_of_ble_eq_true rfl) ?_
  intro p e s m below meth c C hin ls hl H locs hw
  have hl : lv_has ls 1 [(0, .ref b)] := hl
  refine lv_aload_n C.1 C.2.1 dJ5_getValue_6d5f1_0 rfl (lv_at hl 0 rfl) ?_
  refine r_get C hw 0 rfl rfl in_J4 0 (by decide) fl_J5_15 rfl (v := .ref v) rfl dJ5_getValue_6d5f1_1 ?_
  exact r_rret C hw rfl (Or.inr ⟨_, rfl⟩) () trivial rfl (Nat.le_of_ble_eq_true rfl) (Nat.le_of_ble_eq_true rfl) dJ5_getValue_6d5f1_4
set_option maxHeartbeats 4000000 in
set_option maxRecDepth 100000 in
theorem s_new0 {l : Launch} {G : Gx} (hF : SF l G) {X : va_W} {q b : Nat} {u : Nat × Nat × (Nat → Int32) × Int32} {L : List Int32} (hT : sbT u L) (hlt : L.length < u.2.1) : MV l G yJ0_init_db425 cJ0_init_db425 5 3 1 70 [.ref q, .ref b, .null] (sbY G b u L ++ ((q, .inr (0, [.null, .int 0, .int 0, .int 0])) :: X)) (fun z : Nat × Nat × (Nat → Int32) => ∀ j, j < L.length → z.2.2 j = L.getD j 0) (fun z => (z.1, .inl (G.2.2.1 1, L.length, .inl z.2.2)) :: (sbY G b (z.2.1, u.2) L ++ ((q, .inr (0, [.ref z.1, .int 0, .int 0, .int 0])) :: X))) := by
  refine mt_of hF (by decide) (Nat.le_of_ble_eq_true rfl) ?_
  intro p e s m below meth c C hin ls hl H locs hw
  have hl : lv_has ls 5 [(0, .ref q), (1, .ref b), (2, .null)] := hl
  have hw : WH G s (sbY G b u L ++ ((q, .inr (0, [.null, .int 0, .int 0, .int 0])) :: X)) H locs := hw
  have hm := mOk_le hT.1
  refine lv_aload_n C.1 C.2.1 dJ0_init_db425_0 rfl (lv_at hl 0 rfl) ?_
  refine r_objInit C ml_J0_1 obj_i1 obj_i2 hl.1 dJ0_init_db425_1 (Nat.le_of_ble_eq_true rfl) (Nat.le_of_ble_eq_true rfl) ?_
  refine lv_aload_n C.1 C.2.1 dJ0_init_db425_4 rfl (lv_at hl 1 rfl) ?_
  refine r_ur C hw (j5_getValue hF (X := (q, .inr (0, [.null, .int 0, .int 0, .int 0])) :: X) (b := b) (v := u.1) (cp := u.2.1) (f := u.2.2.1) (mb := u.2.2.2) (nn := nI L.length)) ml_J0_552 yf_J5_getValue_6d5f1 (C.2.2.2.2.2.1 _ sel_gv) 0 rfl (As := []) rfl rfl ⟨(Nat.le_of_ble_eq_true rfl), (Nat.le_of_ble_eq_true rfl)⟩ ⟨(Nat.le_of_ble_eq_true rfl), (Nat.le_of_ble_eq_true rfl)⟩ hl.1 (Nat.le_of_ble_eq_true rfl) dJ0_init_db425_5 (fun _ ra H locs _ hw => ?_)
  replace hw : WH G s (sbY G b (ra, u.2) L ++ ((q, .inr (0, [.null, .int 0, .int 0, .int 0])) :: X)) H locs := hw
  refine lv_astore_n (lv' := [(3, .ref ra), (0, .ref q), (1, .ref b), (2, .null)]) C.1 C.2.1 dJ0_init_db425_8 rfl hl (by decide) rfl (fun ls hl => ?_)
  refine lv_aload_n C.1 C.2.1 dJ0_init_db425_9 rfl (lv_at hl 2 rfl) ?_
  refine r_sbl C (u := (ra, u.2)) hw hT hl.1 ⟨(Nat.le_of_ble_eq_true rfl), (Nat.le_of_ble_eq_true rfl)⟩ ⟨(Nat.le_of_ble_eq_true rfl), (Nat.le_of_ble_eq_true rfl)⟩ (Nat.le_of_ble_eq_true rfl) dJ0_init_db425_10 (fun H locs hw => ?_)
  refine lv_istore (lv' := [(4, .int (nI L.length)), (3, .ref ra), (0, .ref q), (1, .ref b), (2, .null)]) C.1 C.2.1 dJ0_init_db425_13 hl (by decide) rfl (fun ls hl => ?_)
  refine lv_aload_n C.1 C.2.1 dJ0_init_db425_15 rfl (lv_at hl 3 rfl) ?_
  refine r_ui C hw (j5_isLatin1 hF (X := (q, .inr (0, [.null, .int 0, .int 0, .int 0])) :: X) (b := b) (v := ra) (cp := u.2.1) (n := L.length) (f := u.2.2.1) (mb := u.2.2.2)) ml_J0_1047 yf_J5_isLatin1_aae02 (C.2.2.2.2.2.1 _ sel_J4) 0 rfl (As := []) rfl rfl ⟨(Nat.le_of_ble_eq_true rfl), (Nat.le_of_ble_eq_true rfl)⟩ ⟨(Nat.le_of_ble_eq_true rfl), (Nat.le_of_ble_eq_true rfl)⟩ hl.1 (Nat.le_of_ble_eq_true rfl) dJ0_init_db425_16 (fun r_16 _ H locs hp_16 hw => ?_)
  obtain rfl : r_16 = 1 := hp_16
  replace hw : WH G s (sbY G b (ra, u.2) L ++ ((q, .inr (0, [.null, .int 0, .int 0, .int 0])) :: X)) H locs := hw
  refine lv_if_eq (tgt := 41) C.1 C.2.1 dJ0_init_db425_19 (by decide) (fun c_19 => absurd c_19 (by decide)) (fun c_19 => ?_)
  refine lv_aload_n C.1 C.2.1 dJ0_init_db425_22 rfl (lv_at hl 2 rfl) ?_
  refine lv_iconst (v := 0) C.1 C.2.1 dJ0_init_db425_23 (by decide) ?_
  refine r_putF C hw 2 rfl rfl in_J0 tyJ0 tyJ0_ok nmJ0 1 (by decide) fl_J0_15 rfl rfl hin rfl rfl rfl (Nat.le_of_ble_eq_true rfl) (w' := sbY G b (ra, u.2) L ++ ((q, .inr (0, [.null, .int 0, .int 0, .int 0])) :: X)) rfl dJ0_init_db425_24 (fun H locs hw => ?_)
  refine lv_aload_n C.1 C.2.1 dJ0_init_db425_27 rfl (lv_at hl 2 rfl) ?_
  refine lv_aload_n C.1 C.2.1 dJ0_init_db425_28 rfl (lv_at hl 1 rfl) ?_
  refine lv_iconst (v := 0) C.1 C.2.1 dJ0_init_db425_29 (by decide) ?_
  refine lv_iload C.1 C.2.1 dJ0_init_db425_30 (lv_at hl 0 rfl) ?_
  refine r_sr C hw (j7_range hF (w0 := sbY G b (ra, u.2) L ++ ((q, .inr (0, [.null, .int 0, .int 0, .int 0])) :: X)) (v := ra) (cp := u.2.1) (n := L.length) (f := u.2.2.1) 1 rfl hlt hm.1 hT.2.2.1) ml_J0_54 yf_J7_copyOfRange_39247 (As := [.ref ra, .int 0, .int (nI L.length)]) rfl rfl ⟨(Nat.le_of_ble_eq_true rfl), (Nat.le_of_ble_eq_true rfl)⟩ ⟨(Nat.le_of_ble_eq_true rfl), (Nat.le_of_ble_eq_true rfl)⟩ hl.1 (Nat.le_of_ble_eq_true rfl) dJ0_init_db425_32 (fun _ qn H locs _ hw => ?_)
  refine r_putF C hw 3 rfl rfl in_J0 tyJ0 tyJ0_ok nmJ0 0 (by decide) fl_J0_9 rfl rfl hin rfl rfl rfl (Nat.le_of_ble_eq_true rfl) (w' := (qn, .inl (G.2.2.1 1, L.length, .inl (va_cpy u.2.2.1 (fun _ => 0) 0 0 L.length))) :: (sbY G b (ra, u.2) L ++ ((q, .inr (0, [.ref qn, .int 0, .int 0, .int 0])) :: X))) rfl dJ0_init_db425_35 (fun H locs hw => ?_)
  refine lv_goto (tgt := 97) C.1 C.2.1 dJ0_init_db425_38 (by decide) ?_
  exact r_vret C hw rfl (qn, ra, va_cpy u.2.2.1 (fun _ => 0) 0 0 L.length) (fun j hj => by show va_cpy u.2.2.1 (fun _ => 0) 0 0 L.length j = _; rw [sb_cpy0 hj]; exact hT.2.2.2 j hj) rfl (Nat.le_of_ble_eq_true rfl) (Nat.le_of_ble_eq_true rfl) dJ0_init_db425_97
set_option maxHeartbeats 4000000 in
set_option maxRecDepth 100000 in
theorem s_new1 {l : Launch} {G : Gx} (hF : SF l G) {X : va_W} {q b : Nat} {u : Nat × Nat × (Nat → Int32) × Int32} {L : List Int32} (hT : sbT u L) (hlt : L.length < u.2.1) : MV l G yJ0_init_81219 cJ0_init_81219 2 4 1 70 [.ref q, .ref b] (sbY G b u L ++ ((q, .inr (0, [.null, .int 0, .int 0, .int 0])) :: X)) (fun z : Nat × Nat × (Nat → Int32) => ∀ j, j < L.length → z.2.2 j = L.getD j 0) (fun z => (z.1, .inl (G.2.2.1 1, L.length, .inl z.2.2)) :: (sbY G b (z.2.1, u.2) L ++ ((q, .inr (0, [.ref z.1, .int 0, .int 0, .int 0])) :: X))) := by
  refine mt_of hF (by decide) (Nat.le_of_ble_eq_true rfl) ?_
  intro p e s m below meth c C hin ls hl H locs hw
  have hl : lv_has ls 2 [(0, .ref q), (1, .ref b)] := hl
  refine lv_aload_n C.1 C.2.1 dJ0_init_81219_0 rfl (lv_at hl 0 rfl) ?_
  refine lv_aload_n C.1 C.2.1 dJ0_init_81219_1 rfl (lv_at hl 1 rfl) ?_
  refine lv_null C.1 C.2.1 dJ0_init_81219_2 ?_
  refine r_iv C hw (s_new0 hF (X := X) (q := q) (b := b) hT hlt) ml_J0_489 yf_J0_init_db425 rfl (As := [.ref b, .null]) rfl rfl ⟨(Nat.le_of_ble_eq_true rfl), (Nat.le_of_ble_eq_true rfl)⟩ ⟨(Nat.le_of_ble_eq_true rfl), (Nat.le_of_ble_eq_true rfl)⟩ hl.1 (Nat.le_of_ble_eq_true rfl) dJ0_init_81219_3 (fun z H locs hp hw => ?_)
  exact r_vret C hw rfl z hp rfl (Nat.le_of_ble_eq_true rfl) (Nat.le_of_ble_eq_true rfl) dJ0_init_81219_6
set_option maxHeartbeats 4000000 in
set_option maxRecDepth 100000 in
theorem s_toString {l : Launch} {G : Gx} (hF : SF l G) {X : va_W} {b : Nat} {u : Nat × Nat × (Nat → Int32) × Int32} {L : List Int32} (hT : sbT u L) (hlt : L.length < u.2.1) : MR l G yJ4_toString_0e30d cJ4_toString_0e30d 1 (.object "java/lang/String") 5 2 74 [.ref b] (sbY G b u L ++ X) (fun z : Nat × (Nat → Int32) => ∀ j, j < L.length → z.2 j = L.getD j 0) (fun z ra => (ra, .inr (0, [.ref z.1, .int 0, .int 0, .int 0])) :: ((z.1, .inl (G.2.2.1 1, L.length, .inl z.2)) :: X)) := by
  refine mt_of hF (by decide) (Nat.le_of_ble_eq_true rfl) ?_
  intro p e s m below meth c C hin ls hl H locs hw
  have hl : lv_has ls 1 [(0, .ref b)] := hl
  refine r_new C hw cl_J4_18 isb_J0 ini_J0 (ci := 0) rfl in_J0 tyJ0 tyJ0_ok (fs := [.null, .int 0, .int 0, .int 0]) (by decide) (w' := fun z => sbY G b u L ++ ((z, .inr (0, [.null, .int 0, .int 0, .int 0])) :: X)) (fun z => (List.perm_append_singleton _ _).trans List.perm_middle.symm) (Nat.le_of_ble_eq_true rfl) (Nat.le_of_ble_eq_true rfl) dJ4_toString_0e30d_0 (fun q H locs hw => ?_)
  refine lv_dup C.1 C.2.1 dJ4_toString_0e30d_3 rfl ?_
  refine lv_aload_n C.1 C.2.1 dJ4_toString_0e30d_4 rfl (lv_at hl 0 rfl) ?_
  refine r_iv C hw (s_new1 hF (X := X) (q := q) (b := b) hT hlt) ml_J4_137 yf_J0_init_81219 rfl (As := [.ref b]) rfl rfl ⟨(Nat.le_of_ble_eq_true rfl), (Nat.le_of_ble_eq_true rfl)⟩ ⟨(Nat.le_of_ble_eq_true rfl), (Nat.le_of_ble_eq_true rfl)⟩ hl.1 (Nat.le_of_ble_eq_true rfl) dJ4_toString_0e30d_5 (fun z H locs hp hw => ?_)
  have hw2 : WH G s ((q, .inr (0, [.ref z.1, .int 0, .int 0, .int 0])) :: ((z.1, .inl (G.2.2.1 1, L.length, .inl z.2.2)) :: X)) H locs := (hw.fewer (List.Sublist.cons_cons _ (List.sublist_append_right _ _))).perm (List.Perm.swap _ _ _)
  exact r_rret C hw2 rfl (Or.inl ⟨_, rfl⟩) (z.1, z.2.2) hp rfl (Nat.le_of_ble_eq_true rfl) (Nat.le_of_ble_eq_true rfl) dJ4_toString_0e30d_8
theorem tx_made {G : Gx} {a v : Nat} {L : List Int32} {f : Nat → Int32} {X : va_W} (h : ∀ j, j < L.length → f j = L.getD j 0) : Txt G a L ((a, .inr (0, [.ref v, .int 0, .int 0, .int 0])) :: ((v, .inl (G.2.2.1 1, L.length, .inl f)) :: X)) := Or.inr ⟨v, 0, rfl, Or.inr ⟨f, 1, rfl, h⟩⟩
