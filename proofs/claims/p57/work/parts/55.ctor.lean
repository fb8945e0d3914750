/-! Constructors -/
def st0 : SV := (fun _ => 0, fun _ _ => 0, 0)
def rwW (G : Gx) (q v n : Nat) : va_W := [(q, .inr (9, [.ref v])), (v, .inl (G.2.2.1 0, n, .inl (fun _ => 0)))]
def slW (G : Gx) (s : Nat → Nat) : va_W := [(s 0, .inr (10, [.ref (s 1), .ref (s 3), .int 0])), (s 1, .inr (9, [.ref (s 2)])), (s 2, .inl (G.2.2.1 0, 6, .inl (fun _ => 0))), (s 3, .inr (9, [.ref (s 4)])), (s 4, .inl (G.2.2.1 0, 6, .inl (fun _ => 0)))]
def bkW (G : Gx) (s : Nat → Nat) : va_W := [(s 0, .inr (4, [.ref (s 1), .ref (s 3), .ref (s 5), .ref (s 7), .ref (s 9), .ref (s 11), .int 0])), (s 1, .inr (9, [.ref (s 2)])), (s 2, .inl (G.2.2.1 0, 20, .inl (fun _ => 0))), (s 3, .inr (9, [.ref (s 4)])), (s 4, .inl (G.2.2.1 0, 20, .inl (fun _ => 0))), (s 5, .inr (9, [.ref (s 6)])), (s 6, .inl (G.2.2.1 0, 20, .inl (fun _ => 0))), (s 7, .inr (9, [.ref (s 8)])), (s 8, .inl (G.2.2.1 0, 20, .inl (fun _ => 0))), (s 9, .inr (9, [.ref (s 10)])), (s 10, .inl (G.2.2.1 0, 20, .inl (fun _ => 0))), (s 11, .inr (9, [.ref (s 12)])), (s 12, .inl (G.2.2.1 0, 20, .inl (fun _ => 0)))]

set_option maxHeartbeats 4000000 in
set_option maxRecDepth 100000 in
theorem c7_init_3 {l : Launch} {G : Gx} (hF : SF l G) {X : va_W} {q : Nat} : MV l G yX7_init cX7_init 2 1 1 3 [.ref q, .int 3] ((q, .inr (9, [.null])) :: X) (fun _ : Nat => True) (fun v => rwW G q v 3 ++ X) := by
  refine mt_of hF (by decide) (Nat.le_of_ble_eq_true rfl) ?_
  intro p e s m below meth c C hin ls hl H locs hw
  have hl : lv_has ls 2 [(0, .ref q), (1, .int 3)] := hl
  refine lv_aload_n C.1 C.2.1 dX7_init_0 rfl (lv_at hl 0 rfl) ?_
  refine r_objInit C ml_X7_1 obj_i1 obj_i2 hl.1 dX7_init_1 (Nat.le_of_ble_eq_true rfl) (Nat.le_of_ble_eq_true rfl) ?_
  refine lv_aload_n C.1 C.2.1 dX7_init_4 rfl (lv_at hl 0 rfl) ?_
  refine lv_iload_n C.1 C.2.1 dX7_init_5 rfl (lv_at hl 1 rfl) ?_
  refine lv_iconst (v := 0) C.1 C.2.1 dX7_init_6 (by decide) ?_
  refine r_mmax C ml_X7_7 hl.1 (Nat.le_of_ble_eq_true rfl) (Nat.le_of_ble_eq_true rfl) (Nat.le_of_ble_eq_true rfl) (Nat.le_of_ble_eq_true rfl) dX7_init_7 ?_
  refine r_toe (show _ = 3 from by decide) ?_
  refine r_newa C hw (atype := .int) 0 rfl rfl ac_int (n := 3) rfl (by decide) (w' := fun z => (q, .inr (9, [.null])) :: ((z, .inl (G.2.2.1 0, 3, .inl (fun _ => 0))) :: X)) (fun z => (List.perm_append_singleton _ _).cons _) (Nat.le_of_ble_eq_true rfl) (Nat.le_of_ble_eq_true rfl) (Nat.le_of_ble_eq_true rfl) dX7_init_10 (fun q_10 H locs hw => ?_)
  replace hw : WH G s ((q, .inr (9, [.null])) :: ((q_10, .inl (G.2.2.1 0, 3, .inl (fun _ => 0))) :: X)) H locs := hw
  refine r_putF C hw 0 rfl rfl in_X7 tyX7 tyX7_ok nmX7 0 (by decide) fl_X7_13 rfl rfl hin rfl rfl rfl (Nat.le_of_ble_eq_true rfl) (w' := (q, .inr (9, [.ref q_10])) :: ((q_10, .inl (G.2.2.1 0, 3, .inl (fun _ => 0))) :: X)) rfl dX7_init_12 (fun H locs hw => ?_)
  exact r_vret C hw rfl q_10 trivial rfl (Nat.le_of_ble_eq_true rfl) (Nat.le_of_ble_eq_true rfl) dX7_init_15

set_option maxHeartbeats 4000000 in
set_option maxRecDepth 100000 in
theorem c7_init_6 {l : Launch} {G : Gx} (hF : SF l G) {X : va_W} {q : Nat} : MV l G yX7_init cX7_init 2 1 1 6 [.ref q, .int 6] ((q, .inr (9, [.null])) :: X) (fun _ : Nat => True) (fun v => rwW G q v 6 ++ X) := by
  refine mt_of hF (by decide) (Nat.le_of_ble_eq_true rfl) ?_
  intro p e s m below meth c C hin ls hl H locs hw
  have hl : lv_has ls 2 [(0, .ref q), (1, .int 6)] := hl
  refine lv_aload_n C.1 C.2.1 dX7_init_0 rfl (lv_at hl 0 rfl) ?_
  refine r_objInit C ml_X7_1 obj_i1 obj_i2 hl.1 dX7_init_1 (Nat.le_of_ble_eq_true rfl) (Nat.le_of_ble_eq_true rfl) ?_
  refine lv_aload_n C.1 C.2.1 dX7_init_4 rfl (lv_at hl 0 rfl) ?_
  refine lv_iload_n C.1 C.2.1 dX7_init_5 rfl (lv_at hl 1 rfl) ?_
  refine lv_iconst (v := 0) C.1 C.2.1 dX7_init_6 (by decide) ?_
  refine r_mmax C ml_X7_7 hl.1 (Nat.le_of_ble_eq_true rfl) (Nat.le_of_ble_eq_true rfl) (Nat.le_of_ble_eq_true rfl) (Nat.le_of_ble_eq_true rfl) dX7_init_7 ?_
  refine r_toe (show _ = 6 from by decide) ?_
  refine r_newa C hw (atype := .int) 0 rfl rfl ac_int (n := 6) rfl (by decide) (w' := fun z => (q, .inr (9, [.null])) :: ((z, .inl (G.2.2.1 0, 6, .inl (fun _ => 0))) :: X)) (fun z => (List.perm_append_singleton _ _).cons _) (Nat.le_of_ble_eq_true rfl) (Nat.le_of_ble_eq_true rfl) (Nat.le_of_ble_eq_true rfl) dX7_init_10 (fun q_10 H locs hw => ?_)
  replace hw : WH G s ((q, .inr (9, [.null])) :: ((q_10, .inl (G.2.2.1 0, 6, .inl (fun _ => 0))) :: X)) H locs := hw
  refine r_putF C hw 0 rfl rfl in_X7 tyX7 tyX7_ok nmX7 0 (by decide) fl_X7_13 rfl rfl hin rfl rfl rfl (Nat.le_of_ble_eq_true rfl) (w' := (q, .inr (9, [.ref q_10])) :: ((q_10, .inl (G.2.2.1 0, 6, .inl (fun _ => 0))) :: X)) rfl dX7_init_12 (fun H locs hw => ?_)
  exact r_vret C hw rfl q_10 trivial rfl (Nat.le_of_ble_eq_true rfl) (Nat.le_of_ble_eq_true rfl) dX7_init_15

set_option maxHeartbeats 4000000 in
set_option maxRecDepth 100000 in
theorem c7_init_20 {l : Launch} {G : Gx} (hF : SF l G) {X : va_W} {q : Nat} : MV l G yX7_init cX7_init 2 1 1 20 [.ref q, .int 20] ((q, .inr (9, [.null])) :: X) (fun _ : Nat => True) (fun v => rwW G q v 20 ++ X) := by
  refine mt_of hF (by decide) (Nat.le_of_ble_eq_true rfl) ?_
  intro p e s m below meth c C hin ls hl H locs hw
  have hl : lv_has ls 2 [(0, .ref q), (1, .int 20)] := hl
  refine lv_aload_n C.1 C.2.1 dX7_init_0 rfl (lv_at hl 0 rfl) ?_
  refine r_objInit C ml_X7_1 obj_i1 obj_i2 hl.1 dX7_init_1 (Nat.le_of_ble_eq_true rfl) (Nat.le_of_ble_eq_true rfl) ?_
  refine lv_aload_n C.1 C.2.1 dX7_init_4 rfl (lv_at hl 0 rfl) ?_
  refine lv_iload_n C.1 C.2.1 dX7_init_5 rfl (lv_at hl 1 rfl) ?_
  refine lv_iconst (v := 0) C.1 C.2.1 dX7_init_6 (by decide) ?_
  refine r_mmax C ml_X7_7 hl.1 (Nat.le_of_ble_eq_true rfl) (Nat.le_of_ble_eq_true rfl) (Nat.le_of_ble_eq_true rfl) (Nat.le_of_ble_eq_true rfl) dX7_init_7 ?_
  refine r_toe (show _ = 20 from by decide) ?_
  refine r_newa C hw (atype := .int) 0 rfl rfl ac_int (n := 20) rfl (by decide) (w' := fun z => (q, .inr (9, [.null])) :: ((z, .inl (G.2.2.1 0, 20, .inl (fun _ => 0))) :: X)) (fun z => (List.perm_append_singleton _ _).cons _) (Nat.le_of_ble_eq_true rfl) (Nat.le_of_ble_eq_true rfl) (Nat.le_of_ble_eq_true rfl) dX7_init_10 (fun q_10 H locs hw => ?_)
  replace hw : WH G s ((q, .inr (9, [.null])) :: ((q_10, .inl (G.2.2.1 0, 20, .inl (fun _ => 0))) :: X)) H locs := hw
  refine r_putF C hw 0 rfl rfl in_X7 tyX7 tyX7_ok nmX7 0 (by decide) fl_X7_13 rfl rfl hin rfl rfl rfl (Nat.le_of_ble_eq_true rfl) (w' := (q, .inr (9, [.ref q_10])) :: ((q_10, .inl (G.2.2.1 0, 20, .inl (fun _ => 0))) :: X)) rfl dX7_init_12 (fun H locs hw => ?_)
  exact r_vret C hw rfl q_10 trivial rfl (Nat.le_of_ble_eq_true rfl) (Nat.le_of_ble_eq_true rfl) dX7_init_15

set_option maxHeartbeats 4000000 in
set_option maxRecDepth 100000 in
theorem c7_init_100 {l : Launch} {G : Gx} (hF : SF l G) {X : va_W} {q : Nat} : MV l G yX7_init cX7_init 2 1 1 100 [.ref q, .int 100] ((q, .inr (9, [.null])) :: X) (fun _ : Nat => True) (fun v => rwW G q v 100 ++ X) := by
  refine mt_of hF (by decide) (Nat.le_of_ble_eq_true rfl) ?_
  intro p e s m below meth c C hin ls hl H locs hw
  have hl : lv_has ls 2 [(0, .ref q), (1, .int 100)] := hl
  refine lv_aload_n C.1 C.2.1 dX7_init_0 rfl (lv_at hl 0 rfl) ?_
  refine r_objInit C ml_X7_1 obj_i1 obj_i2 hl.1 dX7_init_1 (Nat.le_of_ble_eq_true rfl) (Nat.le_of_ble_eq_true rfl) ?_
  refine lv_aload_n C.1 C.2.1 dX7_init_4 rfl (lv_at hl 0 rfl) ?_
  refine lv_iload_n C.1 C.2.1 dX7_init_5 rfl (lv_at hl 1 rfl) ?_
  refine lv_iconst (v := 0) C.1 C.2.1 dX7_init_6 (by decide) ?_
  refine r_mmax C ml_X7_7 hl.1 (Nat.le_of_ble_eq_true rfl) (Nat.le_of_ble_eq_true rfl) (Nat.le_of_ble_eq_true rfl) (Nat.le_of_ble_eq_true rfl) dX7_init_7 ?_
  refine r_toe (show _ = 100 from by decide) ?_
  refine r_newa C hw (atype := .int) 0 rfl rfl ac_int (n := 100) rfl (by decide) (w' := fun z => (q, .inr (9, [.null])) :: ((z, .inl (G.2.2.1 0, 100, .inl (fun _ => 0))) :: X)) (fun z => (List.perm_append_singleton _ _).cons _) (Nat.le_of_ble_eq_true rfl) (Nat.le_of_ble_eq_true rfl) (Nat.le_of_ble_eq_true rfl) dX7_init_10 (fun q_10 H locs hw => ?_)
  replace hw : WH G s ((q, .inr (9, [.null])) :: ((q_10, .inl (G.2.2.1 0, 100, .inl (fun _ => 0))) :: X)) H locs := hw
  refine r_putF C hw 0 rfl rfl in_X7 tyX7 tyX7_ok nmX7 0 (by decide) fl_X7_13 rfl rfl hin rfl rfl rfl (Nat.le_of_ble_eq_true rfl) (w' := (q, .inr (9, [.ref q_10])) :: ((q_10, .inl (G.2.2.1 0, 100, .inl (fun _ => 0))) :: X)) rfl dX7_init_12 (fun H locs hw => ?_)
  exact r_vret C hw rfl q_10 trivial rfl (Nat.le_of_ble_eq_true rfl) (Nat.le_of_ble_eq_true rfl) dX7_init_15

set_option maxHeartbeats 4000000 in
set_option maxRecDepth 100000 in
theorem c8_init {l : Launch} {G : Gx} (hF : SF l G) {X : va_W} {q : Nat} : MV l G yX8_init cX8_init 1 2 4 14 [.ref q] ((q, .inr (10, [.null, .null, .int 0])) :: X) (fun s' : Nat → Nat => s' 0 = q) (fun s' => slW G s' ++ X) := by
  refine mt_of hF (by decide) (Nat.le_of_ble_eq_true rfl) ?_
  intro p e s m below meth c C hin ls hl H locs hw
  have hl : lv_has ls 1 [(0, .ref q)] := hl
  refine lv_aload_n C.1 C.2.1 dX8_init_0 rfl (lv_at hl 0 rfl) ?_
  refine r_objInit C ml_X8_3 obj_i1 obj_i2 hl.1 dX8_init_1 (Nat.le_of_ble_eq_true rfl) (Nat.le_of_ble_eq_true rfl) ?_
  refine lv_aload_n C.1 C.2.1 dX8_init_4 rfl (lv_at hl 0 rfl) ?_
  refine r_new C hw cl_X8_9 isb_X7 ini_X7 (ci := 9) rfl in_X7 tyX7 tyX7_ok (fs := [.null]) (by decide) (w' := fun z => (z, .inr (9, [.null])) :: ((q, .inr (10, [.null, .null, .int 0])) :: X)) (fun z => List.perm_append_singleton _ _) (Nat.le_of_ble_eq_true rfl) (Nat.le_of_ble_eq_true rfl) dX8_init_5 (fun q_5 H locs hw => ?_)
  refine lv_dup C.1 C.2.1 dX8_init_8 rfl ?_
  refine lv_bipush (v := 6) C.1 C.2.1 dX8_init_9 (by decide) ?_
  refine r_iv C hw (c7_init_6 hF (X := ((q, .inr (10, [.null, .null, .int 0])) :: X)) (q := q_5)) ml_X8_11 yf_X7_init rfl (As := [.int 6]) rfl rfl ⟨(Nat.le_of_ble_eq_true rfl), (Nat.le_of_ble_eq_true rfl)⟩ ⟨(Nat.le_of_ble_eq_true rfl), (Nat.le_of_ble_eq_true rfl)⟩ hl.1 (Nat.le_of_ble_eq_true rfl) dX8_init_11 (fun u_11 H locs hp_11 hw => ?_)
  replace hw : WH G s ((q, .inr (10, [.null, .null, .int 0])) :: (rwW G q_5 u_11 6 ++ X)) H locs := hw.perm ((List.perm_middle (l₁ := rwW G q_5 u_11 6)).trans ((List.Perm.refl _).cons _))
  refine r_putF C hw 0 rfl rfl in_X8 tyX8 tyX8_ok nmX8 0 (by decide) fl_X8_14 rfl rfl hin rfl rfl rfl (Nat.le_of_ble_eq_true rfl) (w' := (q, .inr (10, [.ref q_5, .null, .int 0])) :: (rwW G q_5 u_11 6 ++ X)) rfl dX8_init_14 (fun H locs hw => ?_)
  refine lv_aload_n C.1 C.2.1 dX8_init_17 rfl (lv_at hl 0 rfl) ?_
  refine r_new C hw cl_X8_9 isb_X7 ini_X7 (ci := 9) rfl in_X7 tyX7 tyX7_ok (fs := [.null]) (by decide) (w' := fun z => (z, .inr (9, [.null])) :: ((q, .inr (10, [.ref q_5, .null, .int 0])) :: (rwW G q_5 u_11 6 ++ X))) (fun z => List.perm_append_singleton _ _) (Nat.le_of_ble_eq_true rfl) (Nat.le_of_ble_eq_true rfl) dX8_init_18 (fun q_18 H locs hw => ?_)
  refine lv_dup C.1 C.2.1 dX8_init_21 rfl ?_
  refine lv_bipush (v := 6) C.1 C.2.1 dX8_init_22 (by decide) ?_
  refine r_iv C hw (c7_init_6 hF (X := ((q, .inr (10, [.ref q_5, .null, .int 0])) :: (rwW G q_5 u_11 6 ++ X))) (q := q_18)) ml_X8_11 yf_X7_init rfl (As := [.int 6]) rfl rfl ⟨(Nat.le_of_ble_eq_true rfl), (Nat.le_of_ble_eq_true rfl)⟩ ⟨(Nat.le_of_ble_eq_true rfl), (Nat.le_of_ble_eq_true rfl)⟩ hl.1 (Nat.le_of_ble_eq_true rfl) dX8_init_24 (fun u_24 H locs hp_24 hw => ?_)
  replace hw : WH G s ((q, .inr (10, [.ref q_5, .null, .int 0])) :: (rwW G q_5 u_11 6 ++ (rwW G q_18 u_24 6 ++ X))) H locs := hw.perm ((List.perm_middle (l₁ := rwW G q_18 u_24 6)).trans ((((List.perm_append_comm_assoc _ _ _).trans ((List.Perm.refl _).append_left _))).cons _))
  refine r_putF C hw 0 rfl rfl in_X8 tyX8 tyX8_ok nmX8 1 (by decide) fl_X8_20 rfl rfl hin rfl rfl rfl (Nat.le_of_ble_eq_true rfl) (w' := (q, .inr (10, [.ref q_5, .ref q_18, .int 0])) :: (rwW G q_5 u_11 6 ++ (rwW G q_18 u_24 6 ++ X))) rfl dX8_init_27 (fun H locs hw => ?_)
  refine lv_aload_n C.1 C.2.1 dX8_init_30 rfl (lv_at hl 0 rfl) ?_
  refine lv_iconst (v := 0) C.1 C.2.1 dX8_init_31 (by decide) ?_
  refine r_put C hw 0 rfl rfl in_X8 tyX8 tyX8_ok nmX8 2 (by decide) fl_X8_23 rfl rfl rfl rfl (Nat.le_of_ble_eq_true rfl) (w' := (q, .inr (10, [.ref q_5, .ref q_18, .int 0])) :: (rwW G q_5 u_11 6 ++ (rwW G q_18 u_24 6 ++ X))) rfl dX8_init_32 (fun H locs hw => ?_)
  exact r_vret C hw rfl (fun k => match k with | 0 => q | 1 => q_5 | 2 => u_11 | 3 => q_18 | _ => u_24) rfl rfl (Nat.le_of_ble_eq_true rfl) (Nat.le_of_ble_eq_true rfl) dX8_init_35

set_option maxHeartbeats 4000000 in
set_option maxRecDepth 100000 in
theorem c1_init {l : Launch} {G : Gx} (hF : SF l G) {X : va_W} {q : Nat} : MV l G yX1_init cX1_init 1 2 12 126 [.ref q] ((q, .inr (4, [.null, .null, .null, .null, .null, .null, .int 0])) :: X) (fun s' : Nat → Nat => s' 0 = q) (fun s' => bkW G s' ++ X) := by
  refine mt_of hF (by decide) (Nat.le_of_ble_eq_true rfl) ?_
  intro p e s m below meth c C hin ls hl H locs hw
  have hl : lv_has ls 1 [(0, .ref q)] := hl
  refine lv_aload_n C.1 C.2.1 dX1_init_0 rfl (lv_at hl 0 rfl) ?_
  refine r_objInit C ml_X1_3 obj_i1 obj_i2 hl.1 dX1_init_1 (Nat.le_of_ble_eq_true rfl) (Nat.le_of_ble_eq_true rfl) ?_
  refine lv_aload_n C.1 C.2.1 dX1_init_4 rfl (lv_at hl 0 rfl) ?_
  refine r_new C hw cl_X1_9 isb_X7 ini_X7 (ci := 9) rfl in_X7 tyX7 tyX7_ok (fs := [.null]) (by decide) (w' := fun z => (z, .inr (9, [.null])) :: ((q, .inr (4, [.null, .null, .null, .null, .null, .null, .int 0])) :: X)) (fun z => List.perm_append_singleton _ _) (Nat.le_of_ble_eq_true rfl) (Nat.le_of_ble_eq_true rfl) dX1_init_5 (fun q_5 H locs hw => ?_)
  refine lv_dup C.1 C.2.1 dX1_init_8 rfl ?_
  refine lv_bipush (v := 20) C.1 C.2.1 dX1_init_9 (by decide) ?_
  refine r_iv C hw (c7_init_20 hF (X := ((q, .inr (4, [.null, .null, .null, .null, .null, .null, .int 0])) :: X)) (q := q_5)) ml_X1_11 yf_X7_init rfl (As := [.int 20]) rfl rfl ⟨(Nat.le_of_ble_eq_true rfl), (Nat.le_of_ble_eq_true rfl)⟩ ⟨(Nat.le_of_ble_eq_true rfl), (Nat.le_of_ble_eq_true rfl)⟩ hl.1 (Nat.le_of_ble_eq_true rfl) dX1_init_11 (fun u_11 H locs hp_11 hw => ?_)
  replace hw : WH G s ((q, .inr (4, [.null, .null, .null, .null, .null, .null, .int 0])) :: (rwW G q_5 u_11 20 ++ X)) H locs := hw.perm ((List.perm_middle (l₁ := rwW G q_5 u_11 20)).trans ((List.Perm.refl _).cons _))
  refine r_putF C hw 0 rfl rfl in_X1 tyX1 tyX1_ok nmX1 0 (by decide) fl_X1_14 rfl rfl hin rfl rfl rfl (Nat.le_of_ble_eq_true rfl) (w' := (q, .inr (4, [.ref q_5, .null, .null, .null, .null, .null, .int 0])) :: (rwW G q_5 u_11 20 ++ X)) rfl dX1_init_14 (fun H locs hw => ?_)
  refine lv_aload_n C.1 C.2.1 dX1_init_17 rfl (lv_at hl 0 rfl) ?_
  refine r_new C hw cl_X1_9 isb_X7 ini_X7 (ci := 9) rfl in_X7 tyX7 tyX7_ok (fs := [.null]) (by decide) (w' := fun z => (z, .inr (9, [.null])) :: ((q, .inr (4, [.ref q_5, .null, .null, .null, .null, .null, .int 0])) :: (rwW G q_5 u_11 20 ++ X))) (fun z => List.perm_append_singleton _ _) (Nat.le_of_ble_eq_true rfl) (Nat.le_of_ble_eq_true rfl) dX1_init_18 (fun q_18 H locs hw => ?_)
  refine lv_dup C.1 C.2.1 dX1_init_21 rfl ?_
  refine lv_bipush (v := 20) C.1 C.2.1 dX1_init_22 (by decide) ?_
  refine r_iv C hw (c7_init_20 hF (X := ((q, .inr (4, [.ref q_5, .null, .null, .null, .null, .null, .int 0])) :: (rwW G q_5 u_11 20 ++ X))) (q := q_18)) ml_X1_11 yf_X7_init rfl (As := [.int 20]) rfl rfl ⟨(Nat.le_of_ble_eq_true rfl), (Nat.le_of_ble_eq_true rfl)⟩ ⟨(Nat.le_of_ble_eq_true rfl), (Nat.le_of_ble_eq_true rfl)⟩ hl.1 (Nat.le_of_ble_eq_true rfl) dX1_init_24 (fun u_24 H locs hp_24 hw => ?_)
  replace hw : WH G s ((q, .inr (4, [.ref q_5, .null, .null, .null, .null, .null, .int 0])) :: (rwW G q_5 u_11 20 ++ (rwW G q_18 u_24 20 ++ X))) H locs := hw.perm ((List.perm_middle (l₁ := rwW G q_18 u_24 20)).trans ((((List.perm_append_comm_assoc _ _ _).trans ((List.Perm.refl _).append_left _))).cons _))
  refine r_putF C hw 0 rfl rfl in_X1 tyX1 tyX1_ok nmX1 1 (by decide) fl_X1_20 rfl rfl hin rfl rfl rfl (Nat.le_of_ble_eq_true rfl) (w' := (q, .inr (4, [.ref q_5, .ref q_18, .null, .null, .null, .null, .int 0])) :: (rwW G q_5 u_11 20 ++ (rwW G q_18 u_24 20 ++ X))) rfl dX1_init_27 (fun H locs hw => ?_)
  refine lv_aload_n C.1 C.2.1 dX1_init_30 rfl (lv_at hl 0 rfl) ?_
  refine r_new C hw cl_X1_9 isb_X7 ini_X7 (ci := 9) rfl in_X7 tyX7 tyX7_ok (fs := [.null]) (by decide) (w' := fun z => (z, .inr (9, [.null])) :: ((q, .inr (4, [.ref q_5, .ref q_18, .null, .null, .null, .null, .int 0])) :: (rwW G q_5 u_11 20 ++ (rwW G q_18 u_24 20 ++ X)))) (fun z => List.perm_append_singleton _ _) (Nat.le_of_ble_eq_true rfl) (Nat.le_of_ble_eq_true rfl) dX1_init_31 (fun q_31 H locs hw => ?_)
  refine lv_dup C.1 C.2.1 dX1_init_34 rfl ?_
  refine lv_bipush (v := 20) C.1 C.2.1 dX1_init_35 (by decide) ?_
  refine r_iv C hw (c7_init_20 hF (X := ((q, .inr (4, [.ref q_5, .ref q_18, .null, .null, .null, .null, .int 0])) :: (rwW G q_5 u_11 20 ++ (rwW G q_18 u_24 20 ++ X)))) (q := q_31)) ml_X1_11 yf_X7_init rfl (As := [.int 20]) rfl rfl ⟨(Nat.le_of_ble_eq_true rfl), (Nat.le_of_ble_eq_true rfl)⟩ ⟨(Nat.le_of_ble_eq_true rfl), (Nat.le_of_ble_eq_true rfl)⟩ hl.1 (Nat.le_of_ble_eq_true rfl) dX1_init_37 (fun u_37 H locs hp_37 hw => ?_)
  replace hw : WH G s ((q, .inr (4, [.ref q_5, .ref q_18, .null, .null, .null, .null, .int 0])) :: (rwW G q_5 u_11 20 ++ (rwW G q_18 u_24 20 ++ (rwW G q_31 u_37 20 ++ X)))) H locs := hw.perm ((List.perm_middle (l₁ := rwW G q_31 u_37 20)).trans ((((List.perm_append_comm_assoc _ _ _).trans ((((List.perm_append_comm_assoc _ _ _).trans ((List.Perm.refl _).append_left _))).append_left _))).cons _))
  refine r_putF C hw 0 rfl rfl in_X1 tyX1 tyX1_ok nmX1 2 (by decide) fl_X1_23 rfl rfl hin rfl rfl rfl (Nat.le_of_ble_eq_true rfl) (w' := (q, .inr (4, [.ref q_5, .ref q_18, .ref q_31, .null, .null, .null, .int 0])) :: (rwW G q_5 u_11 20 ++ (rwW G q_18 u_24 20 ++ (rwW G q_31 u_37 20 ++ X)))) rfl dX1_init_40 (fun H locs hw => ?_)
  refine lv_aload_n C.1 C.2.1 dX1_init_43 rfl (lv_at hl 0 rfl) ?_
  refine r_new C hw cl_X1_9 isb_X7 ini_X7 (ci := 9) rfl in_X7 tyX7 tyX7_ok (fs := [.null]) (by decide) (w' := fun z => (z, .inr (9, [.null])) :: ((q, .inr (4, [.ref q_5, .ref q_18, .ref q_31, .null, .null, .null, .int 0])) :: (rwW G q_5 u_11 20 ++ (rwW G q_18 u_24 20 ++ (rwW G q_31 u_37 20 ++ X))))) (fun z => List.perm_append_singleton _ _) (Nat.le_of_ble_eq_true rfl) (Nat.le_of_ble_eq_true rfl) dX1_init_44 (fun q_44 H locs hw => ?_)
  refine lv_dup C.1 C.2.1 dX1_init_47 rfl ?_
  refine lv_bipush (v := 20) C.1 C.2.1 dX1_init_48 (by decide) ?_
  refine r_iv C hw (c7_init_20 hF (X := ((q, .inr (4, [.ref q_5, .ref q_18, .ref q_31, .null, .null, .null, .int 0])) :: (rwW G q_5 u_11 20 ++ (rwW G q_18 u_24 20 ++ (rwW G q_31 u_37 20 ++ X))))) (q := q_44)) ml_X1_11 yf_X7_init rfl (As := [.int 20]) rfl rfl ⟨(Nat.le_of_ble_eq_true rfl), (Nat.le_of_ble_eq_true rfl)⟩ ⟨(Nat.le_of_ble_eq_true rfl), (Nat.le_of_ble_eq_true rfl)⟩ hl.1 (Nat.le_of_ble_eq_true rfl) dX1_init_50 (fun u_50 H locs hp_50 hw => ?_)
  replace hw : WH G s ((q, .inr (4, [.ref q_5, .ref q_18, .ref q_31, .null, .null, .null, .int 0])) :: (rwW G q_5 u_11 20 ++ (rwW G q_18 u_24 20 ++ (rwW G q_31 u_37 20 ++ (rwW G q_44 u_50 20 ++ X))))) H locs := hw.perm ((List.perm_middle (l₁ := rwW G q_44 u_50 20)).trans ((((List.perm_append_comm_assoc _ _ _).trans ((((List.perm_append_comm_assoc _ _ _).trans ((((List.perm_append_comm_assoc _ _ _).trans ((List.Perm.refl _).append_left _))).append_left _))).append_left _))).cons _))
  refine r_putF C hw 0 rfl rfl in_X1 tyX1 tyX1_ok nmX1 3 (by decide) fl_X1_26 rfl rfl hin rfl rfl rfl (Nat.le_of_ble_eq_true rfl) (w' := (q, .inr (4, [.ref q_5, .ref q_18, .ref q_31, .ref q_44, .null, .null, .int 0])) :: (rwW G q_5 u_11 20 ++ (rwW G q_18 u_24 20 ++ (rwW G q_31 u_37 20 ++ (rwW G q_44 u_50 20 ++ X))))) rfl dX1_init_53 (fun H locs hw => ?_)
  refine lv_aload_n C.1 C.2.1 dX1_init_56 rfl (lv_at hl 0 rfl) ?_
  refine r_new C hw cl_X1_9 isb_X7 ini_X7 (ci := 9) rfl in_X7 tyX7 tyX7_ok (fs := [.null]) (by decide) (w' := fun z => (z, .inr (9, [.null])) :: ((q, .inr (4, [.ref q_5, .ref q_18, .ref q_31, .ref q_44, .null, .null, .int 0])) :: (rwW G q_5 u_11 20 ++ (rwW G q_18 u_24 20 ++ (rwW G q_31 u_37 20 ++ (rwW G q_44 u_50 20 ++ X)))))) (fun z => List.perm_append_singleton _ _) (Nat.le_of_ble_eq_true rfl) (Nat.le_of_ble_eq_true rfl) dX1_init_57 (fun q_57 H locs hw => ?_)
  refine lv_dup C.1 C.2.1 dX1_init_60 rfl ?_
  refine lv_bipush (v := 20) C.1 C.2.1 dX1_init_61 (by decide) ?_
  refine r_iv C hw (c7_init_20 hF (X := ((q, .inr (4, [.ref q_5, .ref q_18, .ref q_31, .ref q_44, .null, .null, .int 0])) :: (rwW G q_5 u_11 20 ++ (rwW G q_18 u_24 20 ++ (rwW G q_31 u_37 20 ++ (rwW G q_44 u_50 20 ++ X)))))) (q := q_57)) ml_X1_11 yf_X7_init rfl (As := [.int 20]) rfl rfl ⟨(Nat.le_of_ble_eq_true rfl), (Nat.le_of_ble_eq_true rfl)⟩ ⟨(Nat.le_of_ble_eq_true rfl), (Nat.le_of_ble_eq_true rfl)⟩ hl.1 (Nat.le_of_ble_eq_true rfl) dX1_init_63 (fun u_63 H locs hp_63 hw => ?_)
  replace hw : WH G s ((q, .inr (4, [.ref q_5, .ref q_18, .ref q_31, .ref q_44, .null, .null, .int 0])) :: (rwW G q_5 u_11 20 ++ (rwW G q_18 u_24 20 ++ (rwW G q_31 u_37 20 ++ (rwW G q_44 u_50 20 ++ (rwW G q_57 u_63 20 ++ X)))))) H locs := hw.perm ((List.perm_middle (l₁ := rwW G q_57 u_63 20)).trans ((((List.perm_append_comm_assoc _ _ _).trans ((((List.perm_append_comm_assoc _ _ _).trans ((((List.perm_append_comm_assoc _ _ _).trans ((((List.perm_append_comm_assoc _ _ _).trans ((List.Perm.refl _).append_left _))).append_left _))).append_left _))).append_left _))).cons _))
  refine r_putF C hw 0 rfl rfl in_X1 tyX1 tyX1_ok nmX1 4 (by decide) fl_X1_29 rfl rfl hin rfl rfl rfl (Nat.le_of_ble_eq_true rfl) (w' := (q, .inr (4, [.ref q_5, .ref q_18, .ref q_31, .ref q_44, .ref q_57, .null, .int 0])) :: (rwW G q_5 u_11 20 ++ (rwW G q_18 u_24 20 ++ (rwW G q_31 u_37 20 ++ (rwW G q_44 u_50 20 ++ (rwW G q_57 u_63 20 ++ X)))))) rfl dX1_init_66 (fun H locs hw => ?_)
  refine lv_aload_n C.1 C.2.1 dX1_init_69 rfl (lv_at hl 0 rfl) ?_
  refine r_new C hw cl_X1_9 isb_X7 ini_X7 (ci := 9) rfl in_X7 tyX7 tyX7_ok (fs := [.null]) (by decide) (w' := fun z => (z, .inr (9, [.null])) :: ((q, .inr (4, [.ref q_5, .ref q_18, .ref q_31, .ref q_44, .ref q_57, .null, .int 0])) :: (rwW G q_5 u_11 20 ++ (rwW G q_18 u_24 20 ++ (rwW G q_31 u_37 20 ++ (rwW G q_44 u_50 20 ++ (rwW G q_57 u_63 20 ++ X))))))) (fun z => List.perm_append_singleton _ _) (Nat.le_of_ble_eq_true rfl) (Nat.le_of_ble_eq_true rfl) dX1_init_70 (fun q_70 H locs hw => ?_)
  refine lv_dup C.1 C.2.1 dX1_init_73 rfl ?_
  refine lv_bipush (v := 20) C.1 C.2.1 dX1_init_74 (by decide) ?_
  refine r_iv C hw (c7_init_20 hF (X := ((q, .inr (4, [.ref q_5, .ref q_18, .ref q_31, .ref q_44, .ref q_57, .null, .int 0])) :: (rwW G q_5 u_11 20 ++ (rwW G q_18 u_24 20 ++ (rwW G q_31 u_37 20 ++ (rwW G q_44 u_50 20 ++ (rwW G q_57 u_63 20 ++ X))))))) (q := q_70)) ml_X1_11 yf_X7_init rfl (As := [.int 20]) rfl rfl ⟨(Nat.le_of_ble_eq_true rfl), (Nat.le_of_ble_eq_true rfl)⟩ ⟨(Nat.le_of_ble_eq_true rfl), (Nat.le_of_ble_eq_true rfl)⟩ hl.1 (Nat.le_of_ble_eq_true rfl) dX1_init_76 (fun u_76 H locs hp_76 hw => ?_)
  replace hw : WH G s ((q, .inr (4, [.ref q_5, .ref q_18, .ref q_31, .ref q_44, .ref q_57, .null, .int 0])) :: (rwW G q_5 u_11 20 ++ (rwW G q_18 u_24 20 ++ (rwW G q_31 u_37 20 ++ (rwW G q_44 u_50 20 ++ (rwW G q_57 u_63 20 ++ (rwW G q_70 u_76 20 ++ X))))))) H locs := hw.perm ((List.perm_middle (l₁ := rwW G q_70 u_76 20)).trans ((((List.perm_append_comm_assoc _ _ _).trans ((((List.perm_append_comm_assoc _ _ _).trans ((((List.perm_append_comm_assoc _ _ _).trans ((((List.perm_append_comm_assoc _ _ _).trans ((((List.perm_append_comm_assoc _ _ _).trans ((List.Perm.refl _).append_left _))).append_left _))).append_left _))).append_left _))).append_left _))).cons _))
  refine r_putF C hw 0 rfl rfl in_X1 tyX1 tyX1_ok nmX1 5 (by decide) fl_X1_32 rfl rfl hin rfl rfl rfl (Nat.le_of_ble_eq_true rfl) (w' := (q, .inr (4, [.ref q_5, .ref q_18, .ref q_31, .ref q_44, .ref q_57, .ref q_70, .int 0])) :: (rwW G q_5 u_11 20 ++ (rwW G q_18 u_24 20 ++ (rwW G q_31 u_37 20 ++ (rwW G q_44 u_50 20 ++ (rwW G q_57 u_63 20 ++ (rwW G q_70 u_76 20 ++ X))))))) rfl dX1_init_79 (fun H locs hw => ?_)
  refine lv_aload_n C.1 C.2.1 dX1_init_82 rfl (lv_at hl 0 rfl) ?_
  refine lv_iconst (v := 0) C.1 C.2.1 dX1_init_83 (by decide) ?_
  refine r_put C hw 0 rfl rfl in_X1 tyX1 tyX1_ok nmX1 6 (by decide) fl_X1_35 rfl rfl rfl rfl (Nat.le_of_ble_eq_true rfl) (w' := (q, .inr (4, [.ref q_5, .ref q_18, .ref q_31, .ref q_44, .ref q_57, .ref q_70, .int 0])) :: (rwW G q_5 u_11 20 ++ (rwW G q_18 u_24 20 ++ (rwW G q_31 u_37 20 ++ (rwW G q_44 u_50 20 ++ (rwW G q_57 u_63 20 ++ (rwW G q_70 u_76 20 ++ X))))))) rfl dX1_init_84 (fun H locs hw => ?_)
  exact r_vret C hw rfl (fun k => match k with | 0 => q | 1 => q_5 | 2 => u_11 | 3 => q_18 | 4 => u_24 | 5 => q_31 | 6 => u_37 | 7 => q_44 | 8 => u_50 | 9 => q_57 | 10 => u_63 | 11 => q_70 | _ => u_76) rfl rfl (Nat.le_of_ble_eq_true rfl) (Nat.le_of_ble_eq_true rfl) dX1_init_87

set_option maxHeartbeats 4000000 in
set_option maxRecDepth 100000 in
theorem c9_init {l : Launch} {G : Gx} (hF : SF l G) {X : va_W} {q : Nat} : MV l G yX9_init cX9_init 1 3 18 150 [.ref q] ((q, .inr (11, [.null, .null, .int 0, .int 0, .int 0, .int 0, .int 0, .int 0, .long 0])) :: X) (fun s' : Nat → Nat => s' 0 = q) (fun s' => stW G s' st0 ++ X) := by
  refine mt_of hF (by decide) (Nat.le_of_ble_eq_true rfl) ?_
  intro p e s m below meth c C hin ls hl H locs hw
  have hl : lv_has ls 1 [(0, .ref q)] := hl
  refine lv_aload_n C.1 C.2.1 dX9_init_0 rfl (lv_at hl 0 rfl) ?_
  refine r_objInit C ml_X9_3 obj_i1 obj_i2 hl.1 dX9_init_1 (Nat.le_of_ble_eq_true rfl) (Nat.le_of_ble_eq_true rfl) ?_
  refine lv_aload_n C.1 C.2.1 dX9_init_4 rfl (lv_at hl 0 rfl) ?_
  refine r_new C hw cl_X9_9 isb_X8 ini_X8 (ci := 10) rfl in_X8 tyX8 tyX8_ok (fs := [.null, .null, .int 0]) (by decide) (w' := fun z => (z, .inr (10, [.null, .null, .int 0])) :: ((q, .inr (11, [.null, .null, .int 0, .int 0, .int 0, .int 0, .int 0, .int 0, .long 0])) :: X)) (fun z => List.perm_append_singleton _ _) (Nat.le_of_ble_eq_true rfl) (Nat.le_of_ble_eq_true rfl) dX9_init_5 (fun q_5 H locs hw => ?_)
  refine lv_dup C.1 C.2.1 dX9_init_8 rfl ?_
  refine r_nv C hw (c8_init hF (X := ((q, .inr (11, [.null, .null, .int 0, .int 0, .int 0, .int 0, .int 0, .int 0, .long 0])) :: X)) (q := q_5)) mn_X9_11 yf_X8_init rfl (As := []) rfl rfl ⟨(Nat.le_of_ble_eq_true rfl), (Nat.le_of_ble_eq_true rfl)⟩ ⟨(Nat.le_of_ble_eq_true rfl), (Nat.le_of_ble_eq_true rfl)⟩ hl.1 (Nat.le_of_ble_eq_true rfl) dX9_init_9 (fun u_9 H locs hp_9 hw => ?_)
  replace hw : WH G s ((q, .inr (11, [.null, .null, .int 0, .int 0, .int 0, .int 0, .int 0, .int 0, .long 0])) :: (slW G u_9 ++ X)) H locs := hw.perm ((List.perm_middle (l₁ := slW G u_9)).trans ((List.Perm.refl _).cons _))
  refine r_putF C hw 0 rfl rfl in_X9 tyX9 tyX9_ok nmX9 0 (by decide) fl_X9_12 rfl rfl hin rfl rfl rfl (Nat.le_of_ble_eq_true rfl) (w' := (q, .inr (11, [.ref q_5, .null, .int 0, .int 0, .int 0, .int 0, .int 0, .int 0, .long 0])) :: (slW G u_9 ++ X)) rfl dX9_init_12 (fun H locs hw => ?_)
  refine lv_aload_n C.1 C.2.1 dX9_init_15 rfl (lv_at hl 0 rfl) ?_
  refine r_new C hw cl_X9_18 isb_X1 ini_X1 (ci := 4) rfl in_X1 tyX1 tyX1_ok (fs := [.null, .null, .null, .null, .null, .null, .int 0]) (by decide) (w' := fun z => (z, .inr (4, [.null, .null, .null, .null, .null, .null, .int 0])) :: ((q, .inr (11, [.ref q_5, .null, .int 0, .int 0, .int 0, .int 0, .int 0, .int 0, .long 0])) :: (slW G u_9 ++ X))) (fun z => List.perm_append_singleton _ _) (Nat.le_of_ble_eq_true rfl) (Nat.le_of_ble_eq_true rfl) dX9_init_16 (fun q_16 H locs hw => ?_)
  refine lv_dup C.1 C.2.1 dX9_init_19 rfl ?_
  refine r_nv C hw (c1_init hF (X := ((q, .inr (11, [.ref q_5, .null, .int 0, .int 0, .int 0, .int 0, .int 0, .int 0, .long 0])) :: (slW G u_9 ++ X))) (q := q_16)) mn_X9_20 yf_X1_init rfl (As := []) rfl rfl ⟨(Nat.le_of_ble_eq_true rfl), (Nat.le_of_ble_eq_true rfl)⟩ ⟨(Nat.le_of_ble_eq_true rfl), (Nat.le_of_ble_eq_true rfl)⟩ hl.1 (Nat.le_of_ble_eq_true rfl) dX9_init_20 (fun u_20 H locs hp_20 hw => ?_)
  replace hw : WH G s ((q, .inr (11, [.ref q_5, .null, .int 0, .int 0, .int 0, .int 0, .int 0, .int 0, .long 0])) :: (slW G u_9 ++ (bkW G u_20 ++ X))) H locs := hw.perm ((List.perm_middle (l₁ := bkW G u_20)).trans ((((List.perm_append_comm_assoc _ _ _).trans ((List.Perm.refl _).append_left _))).cons _))
  refine r_putF C hw 0 rfl rfl in_X9 tyX9 tyX9_ok nmX9 1 (by decide) fl_X9_21 rfl rfl hin rfl rfl rfl (Nat.le_of_ble_eq_true rfl) (w' := (q, .inr (11, [.ref q_5, .ref q_16, .int 0, .int 0, .int 0, .int 0, .int 0, .int 0, .long 0])) :: (slW G u_9 ++ (bkW G u_20 ++ X))) rfl dX9_init_23 (fun H locs hw => ?_)
  refine lv_aload_n C.1 C.2.1 dX9_init_26 rfl (lv_at hl 0 rfl) ?_
  refine lv_iconst (v := 0) C.1 C.2.1 dX9_init_27 (by decide) ?_
  refine r_put C hw 0 rfl rfl in_X9 tyX9 tyX9_ok nmX9 2 (by decide) fl_X9_25 rfl rfl rfl rfl (Nat.le_of_ble_eq_true rfl) (w' := (q, .inr (11, [.ref q_5, .ref q_16, .int 0, .int 0, .int 0, .int 0, .int 0, .int 0, .long 0])) :: (slW G u_9 ++ (bkW G u_20 ++ X))) rfl dX9_init_28 (fun H locs hw => ?_)
  refine lv_aload_n C.1 C.2.1 dX9_init_31 rfl (lv_at hl 0 rfl) ?_
  refine lv_iconst (v := 0) C.1 C.2.1 dX9_init_32 (by decide) ?_
  refine r_put C hw 0 rfl rfl in_X9 tyX9 tyX9_ok nmX9 3 (by decide) fl_X9_29 rfl rfl rfl rfl (Nat.le_of_ble_eq_true rfl) (w' := (q, .inr (11, [.ref q_5, .ref q_16, .int 0, .int 0, .int 0, .int 0, .int 0, .int 0, .long 0])) :: (slW G u_9 ++ (bkW G u_20 ++ X))) rfl dX9_init_33 (fun H locs hw => ?_)
  refine lv_aload_n C.1 C.2.1 dX9_init_36 rfl (lv_at hl 0 rfl) ?_
  refine lv_iconst (v := 0) C.1 C.2.1 dX9_init_37 (by decide) ?_
  refine r_put C hw 0 rfl rfl in_X9 tyX9 tyX9_ok nmX9 4 (by decide) fl_X9_33 rfl rfl rfl rfl (Nat.le_of_ble_eq_true rfl) (w' := (q, .inr (11, [.ref q_5, .ref q_16, .int 0, .int 0, .int 0, .int 0, .int 0, .int 0, .long 0])) :: (slW G u_9 ++ (bkW G u_20 ++ X))) rfl dX9_init_38 (fun H locs hw => ?_)
  refine lv_aload_n C.1 C.2.1 dX9_init_41 rfl (lv_at hl 0 rfl) ?_
  refine lv_iconst (v := 0) C.1 C.2.1 dX9_init_42 (by decide) ?_
  refine r_put C hw 0 rfl rfl in_X9 tyX9 tyX9_ok nmX9 5 (by decide) fl_X9_36 rfl rfl rfl rfl (Nat.le_of_ble_eq_true rfl) (w' := (q, .inr (11, [.ref q_5, .ref q_16, .int 0, .int 0, .int 0, .int 0, .int 0, .int 0, .long 0])) :: (slW G u_9 ++ (bkW G u_20 ++ X))) rfl dX9_init_43 (fun H locs hw => ?_)
  refine lv_aload_n C.1 C.2.1 dX9_init_46 rfl (lv_at hl 0 rfl) ?_
  refine lv_iconst (v := 0) C.1 C.2.1 dX9_init_47 (by decide) ?_
  refine r_put C hw 0 rfl rfl in_X9 tyX9 tyX9_ok nmX9 6 (by decide) fl_X9_39 rfl rfl rfl rfl (Nat.le_of_ble_eq_true rfl) (w' := (q, .inr (11, [.ref q_5, .ref q_16, .int 0, .int 0, .int 0, .int 0, .int 0, .int 0, .long 0])) :: (slW G u_9 ++ (bkW G u_20 ++ X))) rfl dX9_init_48 (fun H locs hw => ?_)
  refine lv_aload_n C.1 C.2.1 dX9_init_51 rfl (lv_at hl 0 rfl) ?_
  refine lv_iconst (v := 0) C.1 C.2.1 dX9_init_52 (by decide) ?_
  refine r_put C hw 0 rfl rfl in_X9 tyX9 tyX9_ok nmX9 7 (by decide) fl_X9_42 rfl rfl rfl rfl (Nat.le_of_ble_eq_true rfl) (w' := (q, .inr (11, [.ref q_5, .ref q_16, .int 0, .int 0, .int 0, .int 0, .int 0, .int 0, .long 0])) :: (slW G u_9 ++ (bkW G u_20 ++ X))) rfl dX9_init_53 (fun H locs hw => ?_)
  refine lv_aload_n C.1 C.2.1 dX9_init_56 rfl (lv_at hl 0 rfl) ?_
  refine lv_lconst (v := 0) C.1 C.2.1 dX9_init_57 (by decide) ?_
  refine r_put C hw 0 rfl rfl in_X9 tyX9 tyX9_ok nmX9 8 (by decide) fl_X9_45 rfl rfl rfl rfl (Nat.le_of_ble_eq_true rfl) (w' := (q, .inr (11, [.ref q_5, .ref q_16, .int 0, .int 0, .int 0, .int 0, .int 0, .int 0, .long 0])) :: (slW G u_9 ++ (bkW G u_20 ++ X))) rfl dX9_init_58 (fun H locs hw => ?_)
  have hq9 : u_9 0 = q_5 := hp_9
  have hq20 : u_20 0 = q_16 := hp_20
  rw [← hq9, ← hq20] at hw
  exact r_vret C hw rfl (fun k => if k = 0 then q else if k < 6 then u_9 (k - 1) else u_20 (k - 6)) rfl rfl (Nat.le_of_ble_eq_true rfl) (Nat.le_of_ble_eq_true rfl) dX9_init_61

set_option maxHeartbeats 4000000 in
set_option maxRecDepth 100000 in
theorem c6_init {l : Launch} {G : Gx} (hF : SF l G) {X : va_W} {q : Nat} : MV l G yX6_init cX6_init 1 2 4 202 [.ref q] ((q, .inr (8, [.null, .null])) :: X) (fun s' : Nat → Nat => s' 0 = q) (fun s' => suW G s' (fun _ => 0) (fun _ => 0) ++ X) := by
  refine mt_of hF (by decide) (Nat.le_of_ble_eq_true rfl) ?_
  intro p e s m below meth c C hin ls hl H locs hw
  have hl : lv_has ls 1 [(0, .ref q)] := hl
  refine lv_aload_n C.1 C.2.1 dX6_init_0 rfl (lv_at hl 0 rfl) ?_
  refine r_objInit C ml_X6_3 obj_i1 obj_i2 hl.1 dX6_init_1 (Nat.le_of_ble_eq_true rfl) (Nat.le_of_ble_eq_true rfl) ?_
  refine lv_aload_n C.1 C.2.1 dX6_init_4 rfl (lv_at hl 0 rfl) ?_
  refine r_new C hw cl_X6_9 isb_X7 ini_X7 (ci := 9) rfl in_X7 tyX7 tyX7_ok (fs := [.null]) (by decide) (w' := fun z => (z, .inr (9, [.null])) :: ((q, .inr (8, [.null, .null])) :: X)) (fun z => List.perm_append_singleton _ _) (Nat.le_of_ble_eq_true rfl) (Nat.le_of_ble_eq_true rfl) dX6_init_5 (fun q_5 H locs hw => ?_)
  refine lv_dup C.1 C.2.1 dX6_init_8 rfl ?_
  refine lv_bipush (v := 100) C.1 C.2.1 dX6_init_9 (by decide) ?_
  refine r_iv C hw (c7_init_100 hF (X := ((q, .inr (8, [.null, .null])) :: X)) (q := q_5)) ml_X6_11 yf_X7_init rfl (As := [.int 100]) rfl rfl ⟨(Nat.le_of_ble_eq_true rfl), (Nat.le_of_ble_eq_true rfl)⟩ ⟨(Nat.le_of_ble_eq_true rfl), (Nat.le_of_ble_eq_true rfl)⟩ hl.1 (Nat.le_of_ble_eq_true rfl) dX6_init_11 (fun u_11 H locs hp_11 hw => ?_)
  replace hw : WH G s ((q, .inr (8, [.null, .null])) :: (rwW G q_5 u_11 100 ++ X)) H locs := hw.perm ((List.perm_middle (l₁ := rwW G q_5 u_11 100)).trans ((List.Perm.refl _).cons _))
  refine r_putF C hw 0 rfl rfl in_X6 tyX6 tyX6_ok nmX6 0 (by decide) fl_X6_14 rfl rfl hin rfl rfl rfl (Nat.le_of_ble_eq_true rfl) (w' := (q, .inr (8, [.ref q_5, .null])) :: (rwW G q_5 u_11 100 ++ X)) rfl dX6_init_14 (fun H locs hw => ?_)
  refine lv_aload_n C.1 C.2.1 dX6_init_17 rfl (lv_at hl 0 rfl) ?_
  refine r_new C hw cl_X6_9 isb_X7 ini_X7 (ci := 9) rfl in_X7 tyX7 tyX7_ok (fs := [.null]) (by decide) (w' := fun z => (z, .inr (9, [.null])) :: ((q, .inr (8, [.ref q_5, .null])) :: (rwW G q_5 u_11 100 ++ X))) (fun z => List.perm_append_singleton _ _) (Nat.le_of_ble_eq_true rfl) (Nat.le_of_ble_eq_true rfl) dX6_init_18 (fun q_18 H locs hw => ?_)
  refine lv_dup C.1 C.2.1 dX6_init_21 rfl ?_
  refine lv_bipush (v := 100) C.1 C.2.1 dX6_init_22 (by decide) ?_
  refine r_iv C hw (c7_init_100 hF (X := ((q, .inr (8, [.ref q_5, .null])) :: (rwW G q_5 u_11 100 ++ X))) (q := q_18)) ml_X6_11 yf_X7_init rfl (As := [.int 100]) rfl rfl ⟨(Nat.le_of_ble_eq_true rfl), (Nat.le_of_ble_eq_true rfl)⟩ ⟨(Nat.le_of_ble_eq_true rfl), (Nat.le_of_ble_eq_true rfl)⟩ hl.1 (Nat.le_of_ble_eq_true rfl) dX6_init_24 (fun u_24 H locs hp_24 hw => ?_)
  replace hw : WH G s ((q, .inr (8, [.ref q_5, .null])) :: (rwW G q_5 u_11 100 ++ (rwW G q_18 u_24 100 ++ X))) H locs := hw.perm ((List.perm_middle (l₁ := rwW G q_18 u_24 100)).trans ((((List.perm_append_comm_assoc _ _ _).trans ((List.Perm.refl _).append_left _))).cons _))
  refine r_putF C hw 0 rfl rfl in_X6 tyX6 tyX6_ok nmX6 1 (by decide) fl_X6_20 rfl rfl hin rfl rfl rfl (Nat.le_of_ble_eq_true rfl) (w' := (q, .inr (8, [.ref q_5, .ref q_18])) :: (rwW G q_5 u_11 100 ++ (rwW G q_18 u_24 100 ++ X))) rfl dX6_init_27 (fun H locs hw => ?_)
  exact r_vret C hw rfl (fun k => match k with | 0 => q | 1 => q_5 | 2 => u_11 | 3 => q_18 | _ => u_24) rfl rfl (Nat.le_of_ble_eq_true rfl) (Nat.le_of_ble_eq_true rfl) dX6_init_30

set_option maxHeartbeats 4000000 in
set_option maxRecDepth 100000 in
theorem c2_init {l : Launch} {G : Gx} (hF : SF l G) {X : va_W} {q : Nat} : MV l G yX2_init cX2_init 1 3 4 25 [.ref q] ((q, .inr (5, [.null, .null, .null, .int 0])) :: X) (fun s' : (Nat → Nat) × (Nat × Nat × (Nat → Int32) × Int32) => s'.1 0 = q ∧ sbT s'.2 []) (fun s' => sbY G (s'.1 1) s'.2 [] ++ (ctC G s'.1 5 (nI 0) (fun _ => 0) ++ X)) := by
  refine mt_of hF (by decide) (Nat.le_of_ble_eq_true rfl) ?_
  intro p e s m below meth c C hin ls hl H locs hw
  have hl : lv_has ls 1 [(0, .ref q)] := hl
  refine lv_aload_n C.1 C.2.1 dX2_init_0 rfl (lv_at hl 0 rfl) ?_
  refine r_objInit C ml_X2_3 obj_i1 obj_i2 hl.1 dX2_init_1 (Nat.le_of_ble_eq_true rfl) (Nat.le_of_ble_eq_true rfl) ?_
  refine lv_aload_n C.1 C.2.1 dX2_init_4 rfl (lv_at hl 0 rfl) ?_
  refine r_new C hw cl_X2_9 isb_J4 ini_J4 (ci := 1) rfl in_J4 tyJ4 tyJ4_ok (fs := [.null, .int 0, .int 0, .int 0]) (by decide) (w' := fun z => (z, .inr (1, [.null, .int 0, .int 0, .int 0])) :: ((q, .inr (5, [.null, .null, .null, .int 0])) :: X)) (fun z => List.perm_append_singleton _ _) (Nat.le_of_ble_eq_true rfl) (Nat.le_of_ble_eq_true rfl) dX2_init_5 (fun q_5 H locs hw => ?_)
  refine lv_dup C.1 C.2.1 dX2_init_8 rfl ?_
  refine r_iv C hw (s_init hF (X := ((q, .inr (5, [.null, .null, .null, .int 0])) :: X)) (q := q_5)) ml_X2_11 yf_J4_init_da8c8 rfl (As := []) rfl rfl ⟨(Nat.le_of_ble_eq_true rfl), (Nat.le_of_ble_eq_true rfl)⟩ ⟨(Nat.le_of_ble_eq_true rfl), (Nat.le_of_ble_eq_true rfl)⟩ hl.1 (Nat.le_of_ble_eq_true rfl) dX2_init_9 (fun u_9 H locs hp_9 hw => ?_)
  replace hw : WH G s ((q, .inr (5, [.null, .null, .null, .int 0])) :: (sbY G q_5 u_9 [] ++ X)) H locs := hw.perm ((List.perm_middle (l₁ := sbY G q_5 u_9 [])).trans ((List.Perm.refl _).cons _))
  refine r_putF C hw 0 rfl rfl in_X2 tyX2 tyX2_ok nmX2 0 (by decide) fl_X2_12 rfl rfl hin rfl rfl rfl (Nat.le_of_ble_eq_true rfl) (w' := (q, .inr (5, [.ref q_5, .null, .null, .int 0])) :: (sbY G q_5 u_9 [] ++ X)) rfl dX2_init_12 (fun H locs hw => ?_)
  refine lv_aload_n C.1 C.2.1 dX2_init_15 rfl (lv_at hl 0 rfl) ?_
  refine r_new C hw cl_X2_18 isb_X7 ini_X7 (ci := 9) rfl in_X7 tyX7 tyX7_ok (fs := [.null]) (by decide) (w' := fun z => (z, .inr (9, [.null])) :: ((q, .inr (5, [.ref q_5, .null, .null, .int 0])) :: (sbY G q_5 u_9 [] ++ X))) (fun z => List.perm_append_singleton _ _) (Nat.le_of_ble_eq_true rfl) (Nat.le_of_ble_eq_true rfl) dX2_init_16 (fun q_16 H locs hw => ?_)
  refine lv_dup C.1 C.2.1 dX2_init_19 rfl ?_
  refine lv_iconst (v := 3) C.1 C.2.1 dX2_init_20 (by decide) ?_
  refine r_iv C hw (c7_init_3 hF (X := ((q, .inr (5, [.ref q_5, .null, .null, .int 0])) :: (sbY G q_5 u_9 [] ++ X))) (q := q_16)) ml_X2_20 yf_X7_init rfl (As := [.int 3]) rfl rfl ⟨(Nat.le_of_ble_eq_true rfl), (Nat.le_of_ble_eq_true rfl)⟩ ⟨(Nat.le_of_ble_eq_true rfl), (Nat.le_of_ble_eq_true rfl)⟩ hl.1 (Nat.le_of_ble_eq_true rfl) dX2_init_21 (fun u_21 H locs hp_21 hw => ?_)
  replace hw : WH G s ((q, .inr (5, [.ref q_5, .null, .null, .int 0])) :: (sbY G q_5 u_9 [] ++ (rwW G q_16 u_21 3 ++ X))) H locs := hw.perm ((List.perm_middle (l₁ := rwW G q_16 u_21 3)).trans ((((List.perm_append_comm_assoc _ _ _).trans ((List.Perm.refl _).append_left _))).cons _))
  refine r_putF C hw 0 rfl rfl in_X2 tyX2 tyX2_ok nmX2 1 (by decide) fl_X2_23 rfl rfl hin rfl rfl rfl (Nat.le_of_ble_eq_true rfl) (w' := (q, .inr (5, [.ref q_5, .ref q_16, .null, .int 0])) :: (sbY G q_5 u_9 [] ++ (rwW G q_16 u_21 3 ++ X))) rfl dX2_init_24 (fun H locs hw => ?_)
  refine lv_aload_n C.1 C.2.1 dX2_init_27 rfl (lv_at hl 0 rfl) ?_
  refine r_getsV C hw 5 (by decide) fl_X2_27 dX2_init_28 ?_
  refine r_put C hw 0 rfl rfl in_X2 tyX2 tyX2_ok nmX2 2 (by decide) fl_X2_33 rfl rfl rfl rfl (Nat.le_of_ble_eq_true rfl) (w' := (q, .inr (5, [.ref q_5, .ref q_16, .ref (G.2.2.2.2 5), .int 0])) :: (sbY G q_5 u_9 [] ++ (rwW G q_16 u_21 3 ++ X))) rfl dX2_init_31 (fun H locs hw => ?_)
  refine lv_aload_n C.1 C.2.1 dX2_init_34 rfl (lv_at hl 0 rfl) ?_
  refine lv_iconst (v := 0) C.1 C.2.1 dX2_init_35 (by decide) ?_
  refine r_put C hw 0 rfl rfl in_X2 tyX2 tyX2_ok nmX2 3 (by decide) fl_X2_36 rfl rfl rfl rfl (Nat.le_of_ble_eq_true rfl) (w' := (q, .inr (5, [.ref q_5, .ref q_16, .ref (G.2.2.2.2 5), .int 0])) :: (sbY G q_5 u_9 [] ++ (rwW G q_16 u_21 3 ++ X))) rfl dX2_init_36 (fun H locs hw => ?_)
  have hw2 : WH G s (sbY G ((fun k => match k with | 0 => q | 1 => q_5 | 2 => q_16 | _ => u_21) 1) u_9 [] ++ (ctC G (fun k => match k with | 0 => q | 1 => q_5 | 2 => q_16 | _ => u_21) 5 (nI 0) (fun _ => 0) ++ X)) H locs := hw.perm ((List.perm_middle (l₁ := sbY G q_5 u_9 []) (a := _) (l₂ := _)).symm)
  exact r_vret C hw2 rfl ((fun k => match k with | 0 => q | 1 => q_5 | 2 => q_16 | _ => u_21), u_9) ⟨rfl, hp_9⟩ rfl (Nat.le_of_ble_eq_true rfl) (Nat.le_of_ble_eq_true rfl) dX2_init_39

