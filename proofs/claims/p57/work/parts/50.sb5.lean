/-! A StringBuilder, by its text -/
def chL (L : List Int32) : Prop := ∀ j, j < L.length → ∃ k, k < 128 ∧ L.getD j 0 = nI k
theorem and255_nI {k : Nat} (h : k < 128) : nI k &&& 255 = nI k := by
  have key : ∀ k, k < 128 → nI k &&& 255 = nI k := by decide +kernel
  exact key k h

set_option maxHeartbeats 4000000 in
set_option maxRecDepth 100000 in
theorem s_length {l : Launch} {G : Gx} (hF : SF l G) {X : va_W} {b : Nat} {u : Nat × Nat × (Nat → Int32) × Int32} {L : List Int32} (hT : sbT u L) : MI l G yJ4_length_8abf5 cJ4_length_8abf5 1 .int 1 0 0 [.ref b] (sbY G b u L ++ X) (fun r _ => r = nI L.length) (fun _ : Unit => sbY G b u L ++ X) := by
  refine mt_of hF (by decide) (Nat.le_of_ble_eq_true rfl) ?_
  intro p e s m below meth c C hin ls hl H locs hw
  have hl : lv_has ls 1 [(0, .ref b)] := hl
  refine lv_aload_n C.1 C.2.1 dJ4_length_8abf5_0 rfl (lv_at hl 0 rfl) ?_
  refine r_sui C hw (j5_length hF (X := X) (b := b) (v := u.1) (cp := u.2.1) (n := L.length) (f := u.2.2.1) (mb := u.2.2.2)) rfl (by decide +kernel) ml_J4_343 yf_J5_length_8abf5 0 rfl (As := []) rfl rfl ⟨(Nat.le_of_ble_eq_true rfl), (Nat.le_of_ble_eq_true rfl)⟩ ⟨(Nat.le_of_ble_eq_true rfl), (Nat.le_of_ble_eq_true rfl)⟩ hl.1 (Nat.le_of_ble_eq_true rfl) dJ4_length_8abf5_1 (fun r_1 _ H locs hp_1 hw => ?_)
  obtain rfl : r_1 = nI L.length := hp_1
  replace hw : WH G s (sbW G b u.1 u.2.1 u.2.2.1 u.2.2.2 (nI L.length) ++ X) H locs := hw
  exact r_iret C hw rfl rfl () (rfl) rfl (Nat.le_of_ble_eq_true rfl) (Nat.le_of_ble_eq_true rfl) dJ4_length_8abf5_4

set_option maxHeartbeats 4000000 in
set_option maxRecDepth 100000 in
theorem s_charAt {l : Launch} {G : Gx} (hF : SF l G) {X : va_W} {b : Nat} {u : Nat × Nat × (Nat → Int32) × Int32} {L : List Int32} (hT : sbT u L) (hch : chL L) {i : Nat} (hi : i < L.length) : MI l G yJ4_charAt_5068e cJ4_charAt_5068e 2 .char 3 0 0 [.ref b, .int (nI i)] (sbY G b u L ++ X) (fun r _ => r = L.getD i 0) (fun _ : Unit => sbY G b u L ++ X) := by
  refine mt_of hF (by decide) (Nat.le_of_ble_eq_true rfl) ?_
  intro p e s m below meth c C hin ls hl H locs hw
  have hl : lv_has ls 2 [(0, .ref b), (1, .int (nI i))] := hl
  refine lv_aload_n C.1 C.2.1 dJ4_charAt_5068e_0 rfl (lv_at hl 0 rfl) ?_
  refine lv_iload_n C.1 C.2.1 dJ4_charAt_5068e_1 rfl (lv_at hl 1 rfl) ?_
  refine r_sui C hw (j5_charAt hF (X := X) (b := b) (v := u.1) (cp := u.2.1) (n := L.length) (f := u.2.2.1) (mb := u.2.2.2) hi hT.2.1 (mOk_le hT.1).1) rfl (by decide +kernel) ml_J4_329 yf_J5_charAt_5068e 0 rfl (As := [.int (nI i)]) rfl rfl ⟨(Nat.le_of_ble_eq_true rfl), (Nat.le_of_ble_eq_true rfl)⟩ ⟨(Nat.le_of_ble_eq_true rfl), (Nat.le_of_ble_eq_true rfl)⟩ hl.1 (Nat.le_of_ble_eq_true rfl) dJ4_charAt_5068e_2 (fun r_2 _ H locs hp_2 hw => ?_)
  obtain rfl : r_2 = u.2.2.1 i &&& 255 := hp_2
  replace hw : WH G s (sbW G b u.1 u.2.1 u.2.2.1 u.2.2.2 (nI L.length) ++ X) H locs := hw
  have hz : u.2.2.1 i &&& 255 = L.getD i 0 := by obtain ⟨k, hk, hk2⟩ := hch i hi; rw [hT.2.2.2 i hi, hk2, and255_nI hk]
  exact r_iret C hw rfl (sc_nar _) () (hz) rfl (Nat.le_of_ble_eq_true rfl) (Nat.le_of_ble_eq_true rfl) dJ4_charAt_5068e_5

set_option maxHeartbeats 4000000 in
set_option maxRecDepth 100000 in
theorem s_append {l : Launch} {G : Gx} (hF : SF l G) {X : va_W} {b : Nat} {u : Nat × Nat × (Nat → Int32) × Int32} {L : List Int32} (hT : sbT u L) {k : Nat} (hk : k < 128) (h1 : L.length + 1 ≤ 70) : MR l G yJ4_append_cf468 cJ4_append_cf468 2 (.object "java/lang/StringBuilder") 5 1 70 [.ref b, .int (nI k)] (sbY G b u L ++ X) (fun u1 => sbT u1 (L ++ [nI k])) (fun (u1 : Nat × Nat × (Nat → Int32) × Int32) _ => sbY G b u1 (L ++ [nI k]) ++ X) := by
  refine mt_of hF (by decide) (Nat.le_of_ble_eq_true rfl) ?_
  intro p e s m below meth c C hin ls hl H locs hw
  have hl : lv_has ls 2 [(0, .ref b), (1, .int (nI k))] := hl
  refine lv_aload_n C.1 C.2.1 dJ4_append_cf468_0 rfl (lv_at hl 0 rfl) ?_
  refine lv_iload_n C.1 C.2.1 dJ4_append_cf468_1 rfl (lv_at hl 1 rfl) ?_
  refine r_sur C hw (j5_appendC hF (X := X) (b := b) (v := u.1) (cp := u.2.1) (n := L.length) (f := u.2.2.1) (mb := u.2.2.2) hT.1 hT.2.2.1 hk hT.2.1 h1) rfl (by decide +kernel) ml_J4_50 yf_J5_append_3fe6f 0 rfl (As := [.int (nI k)]) rfl rfl ⟨(Nat.le_of_ble_eq_true rfl), (Nat.le_of_ble_eq_true rfl)⟩ ⟨(Nat.le_of_ble_eq_true rfl), (Nat.le_of_ble_eq_true rfl)⟩ hl.1 (Nat.le_of_ble_eq_true rfl) dJ4_append_cf468_2 (fun u_2 ra_2 H locs hp_2 hw => ?_)
  replace hw : WH G s (sbW G b u_2.1 u_2.2.1 u_2.2.2 u.2.2.2 (nI (L.length + 1)) ++ X) H locs := hw
  refine lv_pop C.1 C.2.1 dJ4_append_cf468_5 rfl ?_
  refine lv_aload_n C.1 C.2.1 dJ4_append_cf468_6 rfl (lv_at hl 0 rfl) ?_
  exact r_rret C hw rfl (Or.inl ⟨_, rfl⟩) (u_2.1, u_2.2.1, u_2.2.2, u.2.2.2) (sbT_app hT hp_2.1 hp_2.2.1 hp_2.2.2.1 hp_2.2.2.2.1 (fun i hi => match i, hi with | 0, _ => hp_2.2.2.2.2 | i + 1, hi => absurd hi (by simp))) (by unfold sbY; rw [List.length_append] <;> rfl) (Nat.le_of_ble_eq_true rfl) (Nat.le_of_ble_eq_true rfl) dJ4_append_cf468_7

set_option maxHeartbeats 4000000 in
set_option maxRecDepth 100000 in
theorem s_appendI {l : Launch} {G : Gx} (hF : SF l G) {X : va_W} {b : Nat} {u : Nat × Nat × (Nat → Int32) × Int32} {L : List Int32} (hT : sbT u L) {w : Nat} (hwb : w < 100000) (h1 : L.length + (dgL 4 w).length ≤ 70) : MR l G yJ4_append_bf812 cJ4_append_bf812 2 (.object "java/lang/StringBuilder") 5 1 70 [.ref b, .int (nI w)] (sbY G b u L ++ X) (fun u1 => sbT u1 (L ++ dgL 4 w)) (fun (u1 : Nat × Nat × (Nat → Int32) × Int32) _ => sbY G b u1 (L ++ dgL 4 w) ++ X) := by
  refine mt_of hF (by decide) (Nat.le_of_ble_eq_true rfl) ?_
  intro p e s m below meth c C hin ls hl H locs hw
  have hl : lv_has ls 2 [(0, .ref b), (1, .int (nI w))] := hl
  refine lv_aload_n C.1 C.2.1 dJ4_append_bf812_0 rfl (lv_at hl 0 rfl) ?_
  refine lv_iload_n C.1 C.2.1 dJ4_append_bf812_1 rfl (lv_at hl 1 rfl) ?_
  refine r_sur C hw (j5_appendI hF (X := X) (b := b) (v := u.1) (cp := u.2.1) (n := L.length) (f := u.2.2.1) (mb := u.2.2.2) hT.1 hT.2.2.1 hwb hT.2.1 h1) rfl (by decide +kernel) ml_J4_53 yf_J5_append_c97b9 0 rfl (As := [.int (nI w)]) rfl rfl ⟨(Nat.le_of_ble_eq_true rfl), (Nat.le_of_ble_eq_true rfl)⟩ ⟨(Nat.le_of_ble_eq_true rfl), (Nat.le_of_ble_eq_true rfl)⟩ hl.1 (Nat.le_of_ble_eq_true rfl) dJ4_append_bf812_2 (fun u_2 ra_2 H locs hp_2 hw => ?_)
  replace hw : WH G s (sbW G b u_2.1 u_2.2.1 u_2.2.2 u.2.2.2 (nI (L.length + (dgL 4 w).length)) ++ X) H locs := hw
  refine lv_pop C.1 C.2.1 dJ4_append_bf812_5 rfl ?_
  refine lv_aload_n C.1 C.2.1 dJ4_append_bf812_6 rfl (lv_at hl 0 rfl) ?_
  exact r_rret C hw rfl (Or.inl ⟨_, rfl⟩) (u_2.1, u_2.2.1, u_2.2.2, u.2.2.2) (sbT_app hT hp_2.1 hp_2.2.1 hp_2.2.2.1 hp_2.2.2.2.1 hp_2.2.2.2.2) (by unfold sbY; rw [List.length_append] <;> rfl) (Nat.le_of_ble_eq_true rfl) (Nat.le_of_ble_eq_true rfl) dJ4_append_bf812_7

set_option maxHeartbeats 4000000 in
set_option maxRecDepth 100000 in
theorem s_setLength {l : Launch} {G : Gx} (hF : SF l G) {X : va_W} {b : Nat} {u : Nat × Nat × (Nat → Int32) × Int32} {L : List Int32} (hT : sbT u L) : MV l G yJ4_setLength_d00df cJ4_setLength_d00df 2 5 1 70 [.ref b, .int 0] (sbY G b u L ++ X) (fun u1 => sbT u1 []) (fun u1 : Nat × Nat × (Nat → Int32) × Int32 => sbY G b u1 [] ++ X) := by
  refine mt_of hF (by decide) (Nat.le_of_ble_eq_true rfl) ?_
  intro p e s m below meth c C hin ls hl H locs hw
  have hl : lv_has ls 2 [(0, .ref b), (1, .int 0)] := hl
  refine lv_aload_n C.1 C.2.1 dJ4_setLength_d00df_0 rfl (lv_at hl 0 rfl) ?_
  refine lv_iload_n C.1 C.2.1 dJ4_setLength_d00df_1 rfl (lv_at hl 1 rfl) ?_
  refine r_suv C hw (j5_setLength hF (X := X) (b := b) (v := u.1) (cp := u.2.1) (n := L.length) (f := u.2.2.1) (mb := u.2.2.2) hT.1 hT.2.2.1 hT.2.1) rfl (by decide +kernel) ml_J4_333 yf_J5_setLength_d00df 0 rfl (As := [.int 0]) rfl rfl ⟨(Nat.le_of_ble_eq_true rfl), (Nat.le_of_ble_eq_true rfl)⟩ ⟨(Nat.le_of_ble_eq_true rfl), (Nat.le_of_ble_eq_true rfl)⟩ hl.1 (Nat.le_of_ble_eq_true rfl) dJ4_setLength_d00df_2 (fun u_2 H locs hp_2 hw => ?_)
  replace hw : WH G s (sbW G b u_2.1 u_2.2.1 u_2.2.2.1 u_2.2.2.2 0 ++ X) H locs := hw
  exact r_vret C hw rfl u_2 (⟨hp_2.1, Nat.zero_le _, hp_2.2, fun j hj => absurd hj (Nat.not_lt_zero j)⟩) rfl (Nat.le_of_ble_eq_true rfl) (Nat.le_of_ble_eq_true rfl) dJ4_setLength_d00df_5

set_option maxHeartbeats 4000000 in
set_option maxRecDepth 100000 in
theorem s_init {l : Launch} {G : Gx} (hF : SF l G) {X : va_W} {q : Nat} : MV l G yJ4_init_da8c8 cJ4_init_da8c8 1 2 1 16 [.ref q] ((q, .inr (1, [.null, .int 0, .int 0, .int 0])) :: X) (fun u1 => sbT u1 []) (fun u1 : Nat × Nat × (Nat → Int32) × Int32 => sbY G q u1 [] ++ X) := by
  refine mt_of hF (by decide) (Nat.le_of_ble_eq_true rfl) ?_
  intro p e s m below meth c C hin ls hl H locs hw
  have hl : lv_has ls 1 [(0, .ref q)] := hl
  refine lv_aload_n C.1 C.2.1 dJ4_init_da8c8_0 rfl (lv_at hl 0 rfl) ?_
  refine lv_bipush (v := 16) C.1 C.2.1 dJ4_init_da8c8_1 (by decide) ?_
  refine r_iv C hw (j5_init hF (X := X) (q := q)) ml_J4_1 yf_J5_init_d00df rfl (As := [.int 16]) rfl rfl ⟨(Nat.le_of_ble_eq_true rfl), (Nat.le_of_ble_eq_true rfl)⟩ ⟨(Nat.le_of_ble_eq_true rfl), (Nat.le_of_ble_eq_true rfl)⟩ hl.1 (Nat.le_of_ble_eq_true rfl) dJ4_init_da8c8_3 (fun u_3 H locs hp_3 hw => ?_)
  replace hw : WH G s (sbW G q u_3 16 (fun _ => 0) 0 0 ++ X) H locs := hw
  exact r_vret C hw rfl (u_3, 16, (fun _ => 0), 0) (⟨Or.inl rfl, Nat.zero_le _, sb_fit0, fun j hj => absurd hj (Nat.not_lt_zero j)⟩) rfl (Nat.le_of_ble_eq_true rfl) (Nat.le_of_ble_eq_true rfl) dJ4_init_da8c8_6

