/-! DropMarket -/
def dmO (G : Gx) (K : Nat → Nat → Nat) (F : Nat → Int32) : va_W := [(K 7 0, .inr (12, [.ref (K 0 0), .ref (K 1 0), .ref (K 2 0), .ref (K 3 0), .ref (K 4 0), .ref (K 5 0), .ref (K 6 0), .int (F 0), .int (F 1), .int (F 2)]))]
set_option maxHeartbeats 4000000 in
set_option maxRecDepth 100000 in
theorem x11_refuse {l : Launch} {G : Gx} (hF : SF l G) {X : va_W} {i : Nat} (hi : i < 6) : XV l G yX11_refuse cX11_refuse 1 6 1 6 [.ref (G.2.2.2.1 i)] (X) (fun _ : Unit => i = 0) (fun _ : Unit => X) (fun k => k = i ∧ i ≠ 0) (fun _ => X) := by
  refine mx_of hF (by decide) (Nat.le_of_ble_eq_true rfl) ?_
  intro p e s m below meth c C hnt ls hl H locs hw
  have hl : lv_has ls 1 [(0, .ref (G.2.2.2.1 i))] := hl
  refine lv_aload_n C.1 C.2.1 dX11_refuse_0 rfl (lv_at hl 0 rfl) ?_
  refine r_getsF C hw 1 (by decide) fl_X11_374 dX11_refuse_1 ?_
  refine lv_acmp_ne (rx := some (G.2.2.2.1 i)) (ry := some (G.2.2.2.1 1)) (tgt := 18) C.1 C.2.1 dX11_refuse_4 (by decide) (fun c_4 => ?_) (fun c_4 => ?_)
  · refine lv_aload_n C.1 C.2.1 dX11_refuse_18 rfl (lv_at hl 0 rfl) ?_
    refine r_getsF C hw 2 (by decide) fl_X11_379 dX11_refuse_19 ?_
    refine lv_acmp_ne (rx := some (G.2.2.2.1 i)) (ry := some (G.2.2.2.1 2)) (tgt := 36) C.1 C.2.1 dX11_refuse_22 (by decide) (fun c_22 => ?_) (fun c_22 => ?_)
    · refine lv_aload_n C.1 C.2.1 dX11_refuse_36 rfl (lv_at hl 0 rfl) ?_
      refine r_getsF C hw 3 (by decide) fl_X11_384 dX11_refuse_37 ?_
      refine lv_acmp_ne (rx := some (G.2.2.2.1 i)) (ry := some (G.2.2.2.1 3)) (tgt := 54) C.1 C.2.1 dX11_refuse_40 (by decide) (fun c_40 => ?_) (fun c_40 => ?_)
      · refine lv_aload_n C.1 C.2.1 dX11_refuse_54 rfl (lv_at hl 0 rfl) ?_
        refine r_getsF C hw 4 (by decide) fl_X11_389 dX11_refuse_55 ?_
        refine lv_acmp_ne (rx := some (G.2.2.2.1 i)) (ry := some (G.2.2.2.1 4)) (tgt := 72) C.1 C.2.1 dX11_refuse_58 (by decide) (fun c_58 => ?_) (fun c_58 => ?_)
        · refine lv_aload_n C.1 C.2.1 dX11_refuse_72 rfl (lv_at hl 0 rfl) ?_
          refine r_getsF C hw 5 (by decide) fl_X11_397 dX11_refuse_73 ?_
          refine lv_acmp_ne (rx := some (G.2.2.2.1 i)) (ry := some (G.2.2.2.1 5)) (tgt := 90) C.1 C.2.1 dX11_refuse_76 (by decide) (fun c_76 => ?_) (fun c_76 => ?_)
          · refine vx_ret ?_
            exact r_vret C hw rfl () (by have n1 : i ≠ 1 := fun h => c_4 (by rw [h]); have n2 : i ≠ 2 := fun h => c_22 (by rw [h]); have n3 : i ≠ 3 := fun h => c_40 (by rw [h]); have n4 : i ≠ 4 := fun h => c_58 (by rw [h]); have n5 : i ≠ 5 := fun h => c_76 (by rw [h]); omega) rfl (Nat.le_of_ble_eq_true rfl) (Nat.le_of_ble_eq_true rfl) dX11_refuse_90
          · exact x_thr5W C hw (sr_400 hF) (⟨((hF.2.2.1.2 i 5 hi (by decide) (Option.some.inj c_76))).symm, fun h0 => by have h9 := hF.2.2.1.2 i 5 hi (by decide) (Option.some.inj c_76); omega⟩) rfl hnt hl.1 dX11_refuse_79 dX11_refuse_82 dX11_refuse_83 dX11_refuse_86 dX11_refuse_89 (Nat.le_of_ble_eq_true rfl) (Nat.le_of_ble_eq_true rfl) (Nat.le_of_ble_eq_true rfl) (Nat.le_of_ble_eq_true rfl) (Nat.le_of_ble_eq_true rfl) (Nat.le_of_ble_eq_true rfl)
        · exact x_thr4W C hw (sr_394 hF) (⟨((hF.2.2.1.2 i 4 hi (by decide) (Option.some.inj c_58))).symm, fun h0 => by have h9 := hF.2.2.1.2 i 4 hi (by decide) (Option.some.inj c_58); omega⟩) rfl hnt hl.1 dX11_refuse_61 dX11_refuse_64 dX11_refuse_65 dX11_refuse_68 dX11_refuse_71 (Nat.le_of_ble_eq_true rfl) (Nat.le_of_ble_eq_true rfl) (Nat.le_of_ble_eq_true rfl) (Nat.le_of_ble_eq_true rfl) (Nat.le_of_ble_eq_true rfl) (Nat.le_of_ble_eq_true rfl)
      · exact x_thr3W C hw (sr_387 hF) (⟨((hF.2.2.1.2 i 3 hi (by decide) (Option.some.inj c_40))).symm, fun h0 => by have h9 := hF.2.2.1.2 i 3 hi (by decide) (Option.some.inj c_40); omega⟩) rfl hnt hl.1 dX11_refuse_43 dX11_refuse_46 dX11_refuse_47 dX11_refuse_50 dX11_refuse_53 (Nat.le_of_ble_eq_true rfl) (Nat.le_of_ble_eq_true rfl) (Nat.le_of_ble_eq_true rfl) (Nat.le_of_ble_eq_true rfl) (Nat.le_of_ble_eq_true rfl) (Nat.le_of_ble_eq_true rfl)
    · exact x_thr2W C hw (sr_382 hF) (⟨((hF.2.2.1.2 i 2 hi (by decide) (Option.some.inj c_22))).symm, fun h0 => by have h9 := hF.2.2.1.2 i 2 hi (by decide) (Option.some.inj c_22); omega⟩) rfl hnt hl.1 dX11_refuse_25 dX11_refuse_28 dX11_refuse_29 dX11_refuse_32 dX11_refuse_35 (Nat.le_of_ble_eq_true rfl) (Nat.le_of_ble_eq_true rfl) (Nat.le_of_ble_eq_true rfl) (Nat.le_of_ble_eq_true rfl) (Nat.le_of_ble_eq_true rfl) (Nat.le_of_ble_eq_true rfl)
  · exact x_thr1W C hw (sr_377 hF) (⟨((hF.2.2.1.2 i 1 hi (by decide) (Option.some.inj c_4))).symm, fun h0 => by have h9 := hF.2.2.1.2 i 1 hi (by decide) (Option.some.inj c_4); omega⟩) rfl hnt hl.1 dX11_refuse_7 dX11_refuse_10 dX11_refuse_11 dX11_refuse_14 dX11_refuse_17 (Nat.le_of_ble_eq_true rfl) (Nat.le_of_ble_eq_true rfl) (Nat.le_of_ble_eq_true rfl) (Nat.le_of_ble_eq_true rfl) (Nat.le_of_ble_eq_true rfl) (Nat.le_of_ble_eq_true rfl)

set_option maxHeartbeats 4000000 in
set_option maxRecDepth 100000 in
theorem x11_requireStall {l : Launch} {G : Gx} (hF : SF l G) {K : Nat → Nat → Nat} {S : SV} {F : Nat → Int32} {X : va_W} (ok : okS S) (x : Int32) : XV l G yX11_requireStall cX11_requireStall 2 6 1 6 [.ref (K 7 0), .int x] (stW G (K 0) S ++ (dmO G K F ++ X)) (fun _ : Unit => hasN x (nT S) = true) (fun _ : Unit => stW G (K 0) S ++ (dmO G K F ++ X)) (fun k => k = 1 ∧ hasN x (nT S) = false) (fun _ => stW G (K 0) S ++ (dmO G K F ++ X)) := by
  refine mx_of hF (by decide) (Nat.le_of_ble_eq_true rfl) ?_
  intro p e s m below meth c C hnt ls hl H locs hw
  have hl : lv_has ls 2 [(0, .ref (K 7 0)), (1, .int x)] := hl
  refine lv_aload_n C.1 C.2.1 dX11_requireStall_0 rfl (lv_at hl 0 rfl) ?_
  refine r_get C hw 19 rfl rfl in_X11 0 (by decide) fl_X11_10 rfl (v := .ref (K 0 0)) rfl dX11_requireStall_1 ?_
  refine r_get C hw 0 rfl rfl in_X9 0 (by decide) fl_X11_73 rfl (v := .ref (K 0 1)) rfl dX11_requireStall_4 ?_
  refine lv_iload_n C.1 C.2.1 dX11_requireStall_7 rfl (lv_at hl 1 rfl) ?_
  refine r_vi C hw (k8_has hF (a := (K 0)) (S := S) (X := (dmO G K F ++ X)) ok.2.2.1 ok.2.2.2 x) ml_X11_402 yf_X8_has 1 rfl rfl (As := [.int x]) rfl rfl ⟨(Nat.le_of_ble_eq_true rfl), (Nat.le_of_ble_eq_true rfl)⟩ ⟨(Nat.le_of_ble_eq_true rfl), (Nat.le_of_ble_eq_true rfl)⟩ hl.1 (Nat.le_of_ble_eq_true rfl) dX11_requireStall_8 (fun r_8 _ H locs hp_8 hw => ?_)
  obtain rfl : r_8 = bI (hasN x (nT S)) := hp_8
  replace hw : WH G s (stW G (K 0) S ++ (dmO G K F ++ X)) H locs := hw
  refine lv_if_ne (tgt := 25) C.1 C.2.1 dX11_requireStall_11 (by decide) (fun c_11 => ?_) (fun c_11 => ?_)
  · refine vx_ret ?_
    exact r_vret C hw rfl () (bI_ne0.mp c_11) rfl (Nat.le_of_ble_eq_true rfl) (Nat.le_of_ble_eq_true rfl) dX11_requireStall_25
  · exact x_thr1W C hw (sr_377 hF) (⟨rfl, bI_eq0.mp c_11⟩) rfl hnt hl.1 dX11_requireStall_14 dX11_requireStall_17 dX11_requireStall_18 dX11_requireStall_21 dX11_requireStall_24 (Nat.le_of_ble_eq_true rfl) (Nat.le_of_ble_eq_true rfl) (Nat.le_of_ble_eq_true rfl) (Nat.le_of_ble_eq_true rfl) (Nat.le_of_ble_eq_true rfl) (Nat.le_of_ble_eq_true rfl)

set_option maxHeartbeats 4000000 in
set_option maxRecDepth 100000 in
theorem x11_requireSlot {l : Launch} {G : Gx} (hF : SF l G) {K : Nat → Nat → Nat} {S : SV} {F : Nat → Int32} {X : va_W} (ok : okS S) (x : Int32) : XI l G yX11_requireSlot cX11_requireSlot 3 .int 6 1 6 [.ref (K 7 0), .int x] (stW G (K 0) S ++ (dmO G K F ++ X)) (fun r _ => ∃ j, j < nO S ∧ slotF S x (nO S) = some j ∧ r = nI j) (fun _ : Unit => stW G (K 0) S ++ (dmO G K F ++ X)) (fun k => k = 5 ∧ slotF S x (nO S) = none) (fun _ => stW G (K 0) S ++ (dmO G K F ++ X)) := by
  refine mx_of hF (by decide) (Nat.le_of_ble_eq_true rfl) ?_
  intro p e s m below meth c C hnt ls hl H locs hw
  have hl : lv_has ls 3 [(0, .ref (K 7 0)), (1, .int x)] := hl
  refine lv_aload_n C.1 C.2.1 dX11_requireSlot_0 rfl (lv_at hl 0 rfl) ?_
  refine r_get C hw 19 rfl rfl in_X11 0 (by decide) fl_X11_10 rfl (v := .ref (K 0 0)) rfl dX11_requireSlot_1 ?_
  refine r_get C hw 0 rfl rfl in_X9 1 (by decide) fl_X11_161 rfl (v := .ref (K 0 6)) rfl dX11_requireSlot_4 ?_
  refine lv_iload_n C.1 C.2.1 dX11_requireSlot_7 rfl (lv_at hl 1 rfl) ?_
  refine r_vi C hw (k1_slotOf hF (a := (K 0)) (S := S) (X := (dmO G K F ++ X)) ok.1 ok.2.1 x) ml_X11_405 yf_X1_slotOf 6 rfl rfl (As := [.int x]) rfl rfl ⟨(Nat.le_of_ble_eq_true rfl), (Nat.le_of_ble_eq_true rfl)⟩ ⟨(Nat.le_of_ble_eq_true rfl), (Nat.le_of_ble_eq_true rfl)⟩ hl.1 (Nat.le_of_ble_eq_true rfl) dX11_requireSlot_8 (fun r_8 _ H locs hp_8 hw => ?_)
  obtain rfl : r_8 = oI (slotF S x (nO S)) := hp_8
  replace hw : WH G s (stW G (K 0) S ++ (dmO G K F ++ X)) H locs := hw
  refine lv_istore_n (lv' := [(2, .int (oI (slotF S x (nO S)))), (0, .ref (K 7 0)), (1, .int x)]) C.1 C.2.1 dX11_requireSlot_11 rfl hl (by decide) rfl (fun ls hl => ?_)
  refine lv_iload_n C.1 C.2.1 dX11_requireSlot_12 rfl (lv_at hl 0 rfl) ?_
  refine lv_iconst (v := -1) C.1 C.2.1 dX11_requireSlot_13 (by decide) ?_
  refine lv_icmp_ne (tgt := 28) C.1 C.2.1 dX11_requireSlot_14 (by decide) (fun c_14 => ?_) (fun c_14 => ?_)
  · refine lv_iload_n C.1 C.2.1 dX11_requireSlot_28 rfl (lv_at hl 0 rfl) ?_
    refine vx_ret ?_
    exact r_iret C hw rfl rfl () (by cases hz : slotF S x (nO S) with | none => rw [hz] at c_14; exact absurd rfl c_14 | some j => exact ⟨j, (fnd_lt hz).1, rfl, rfl⟩) rfl (Nat.le_of_ble_eq_true rfl) (Nat.le_of_ble_eq_true rfl) dX11_requireSlot_29
  · exact x_thr5W C hw (sr_400 hF) (⟨rfl, (oI_none (fun j hj => by have := (fnd_lt hj).1; have := ok.2.1; have := ok.2.2.2; omega)).mp c_14⟩) rfl hnt hl.1 dX11_requireSlot_17 dX11_requireSlot_20 dX11_requireSlot_21 dX11_requireSlot_24 dX11_requireSlot_27 (Nat.le_of_ble_eq_true rfl) (Nat.le_of_ble_eq_true rfl) (Nat.le_of_ble_eq_true rfl) (Nat.le_of_ble_eq_true rfl) (Nat.le_of_ble_eq_true rfl) (Nat.le_of_ble_eq_true rfl)

set_option maxHeartbeats 4000000 in
set_option maxRecDepth 100000 in
theorem x11_bestOrder {l : Launch} {G : Gx} (hF : SF l G) {K : Nat → Nat → Nat} {S : SV} {F : Nat → Int32} {X : va_W} (ok : okS S) (b : Bool) : XI l G yX11_bestOrder cX11_bestOrder 3 .int 6 1 6 [.ref (K 7 0), .int (bI b)] (stW G (K 0) S ++ (dmO G K F ++ X)) (fun r _ => ∃ j, j < nO S ∧ best S b (nO S) = some j ∧ r = S.2.1 2 j) (fun _ : Unit => stW G (K 0) S ++ (dmO G K F ++ X)) (fun k => k = 5 ∧ best S b (nO S) = none) (fun _ => stW G (K 0) S ++ (dmO G K F ++ X)) := by
  refine mx_of hF (by decide) (Nat.le_of_ble_eq_true rfl) ?_
  intro p e s m below meth c C hnt ls hl H locs hw
  have hl : lv_has ls 3 [(0, .ref (K 7 0)), (1, .int (bI b))] := hl
  refine lv_aload_n C.1 C.2.1 dX11_bestOrder_0 rfl (lv_at hl 0 rfl) ?_
  refine r_get C hw 19 rfl rfl in_X11 0 (by decide) fl_X11_10 rfl (v := .ref (K 0 0)) rfl dX11_bestOrder_1 ?_
  refine r_get C hw 0 rfl rfl in_X9 1 (by decide) fl_X11_161 rfl (v := .ref (K 0 6)) rfl dX11_bestOrder_4 ?_
  refine lv_iload_n C.1 C.2.1 dX11_bestOrder_7 rfl (lv_at hl 1 rfl) ?_
  obtain ⟨o_8, ho_8⟩ : ∃ o, o = best S b (nO S) := ⟨_, rfl⟩
  refine r_vi C hw (k1_bestSlot hF (a := (K 0)) (S := S) (X := (dmO G K F ++ X)) ok.1 ok.2.1 b) ml_X11_414 yf_X1_bestSlot 6 rfl rfl (As := [.int (bI b)]) rfl rfl ⟨(Nat.le_of_ble_eq_true rfl), (Nat.le_of_ble_eq_true rfl)⟩ ⟨(Nat.le_of_ble_eq_true rfl), (Nat.le_of_ble_eq_true rfl)⟩ hl.1 (Nat.le_of_ble_eq_true rfl) dX11_bestOrder_8 (fun r_8 _ H locs hp_8 hw => ?_)
  obtain rfl : r_8 = oI o_8 := by rw [hp_8, ho_8]
  replace hw : WH G s (stW G (K 0) S ++ (dmO G K F ++ X)) H locs := hw
  refine lv_istore_n (lv' := [(2, .int (oI o_8)), (0, .ref (K 7 0)), (1, .int (bI b))]) C.1 C.2.1 dX11_bestOrder_11 rfl hl (by decide) rfl (fun ls hl => ?_)
  refine lv_iload_n C.1 C.2.1 dX11_bestOrder_12 rfl (lv_at hl 0 rfl) ?_
  refine lv_iconst (v := -1) C.1 C.2.1 dX11_bestOrder_13 (by decide) ?_
  refine lv_icmp_ne (tgt := 28) C.1 C.2.1 dX11_bestOrder_14 (by decide) (fun c_14 => ?_) (fun c_14 => ?_)
  · obtain ⟨j, rfl⟩ : ∃ q, o_8 = some q := by cases o_8 with | none => exact absurd rfl c_14 | some q => exact ⟨q, rfl⟩
    have hj : j < nO S := best_lt ho_8.symm
    have hj20 : j < 20 := Nat.lt_of_lt_of_le hj ok.2.1
    replace hl : lv_has ls 3 [(2, .int (nI j)), (0, .ref (K 7 0)), (1, .int (bI b))] := hl
    refine lv_aload_n C.1 C.2.1 dX11_bestOrder_28 rfl (lv_at hl 1 rfl) ?_
    refine r_get C hw 19 rfl rfl in_X11 0 (by decide) fl_X11_10 rfl (v := .ref (K 0 0)) rfl dX11_bestOrder_29 ?_
    refine r_get C hw 0 rfl rfl in_X9 1 (by decide) fl_X11_161 rfl (v := .ref (K 0 6)) rfl dX11_bestOrder_32 ?_
    refine r_get C hw 6 rfl rfl in_X1 0 (by decide) fl_X11_173 rfl (v := .ref (K 0 7)) rfl dX11_bestOrder_35 ?_
    refine lv_iload_n C.1 C.2.1 dX11_bestOrder_38 rfl (lv_at hl 0 rfl) ?_
    refine r_vi C hw (k7_get hF (strow_2 G (K 0) S (dmO G K F ++ X)) (by decide) (strow_e G (K 0) S (dmO G K F ++ X) 2) (nI j)) ml_X11_134 yf_X7_get 7 rfl rfl (As := [.int (nI j)]) rfl rfl ⟨Nat.le_of_ble_eq_true rfl, Nat.le_of_ble_eq_true rfl⟩ ⟨Nat.le_of_ble_eq_true rfl, Nat.le_of_ble_eq_true rfl⟩ hl.1 (Nat.le_of_ble_eq_true rfl) dX11_bestOrder_39 (fun r_39 _ H locs hp_39 hw => ?_)
    obtain rfl : r_39 = ((S.2.1 2) j) := by rw [hp_39]; exact rget_nI (by omega) (by decide)
    replace hw : WH G s (stW G (K 0) S ++ (dmO G K F ++ X)) H locs := hw
    refine vx_ret ?_
    exact r_iret C hw rfl rfl () (⟨j, hj, ho_8.symm, rfl⟩) rfl (Nat.le_of_ble_eq_true rfl) (Nat.le_of_ble_eq_true rfl) dX11_bestOrder_42
  · exact x_thr5W C hw (sr_417 hF) (⟨rfl, ho_8 ▸ (oI_none (fun q hq => by have := best_lt (ho_8.symm.trans hq); have := ok.2.1; omega)).mp c_14⟩) rfl hnt hl.1 dX11_bestOrder_17 dX11_bestOrder_20 dX11_bestOrder_21 dX11_bestOrder_24 dX11_bestOrder_27 (Nat.le_of_ble_eq_true rfl) (Nat.le_of_ble_eq_true rfl) (Nat.le_of_ble_eq_true rfl) (Nat.le_of_ble_eq_true rfl) (Nat.le_of_ble_eq_true rfl) (Nat.le_of_ble_eq_true rfl)

set_option maxHeartbeats 4000000 in
set_option maxRecDepth 100000 in
theorem x11_requirePrice {l : Launch} {G : Gx} (hF : SF l G) {X : va_W} (x : Int32) : XV l G yX11_requirePrice cX11_requirePrice 1 6 1 6 [.int x] (X) (fun _ : Unit => inR x 1 99 = true) (fun _ : Unit => X) (fun k => k = 2 ∧ inR x 1 99 = false) (fun _ => X) := by
  refine mx_of hF (by decide) (Nat.le_of_ble_eq_true rfl) ?_
  intro p e s m below meth c C hnt ls hl H locs hw
  have hl : lv_has ls 1 [(0, .int x)] := hl
  refine lv_iload_n C.1 C.2.1 dX11_requirePrice_0 rfl (lv_at hl 0 rfl) ?_
  refine lv_iconst (v := 1) C.1 C.2.1 dX11_requirePrice_1 (by decide) ?_
  refine lv_bipush (v := 99) C.1 C.2.1 dX11_requirePrice_2 (by decide) ?_
  refine r_si C hw (k11_isWithin hF (X := X) x 1 99) ml_X11_87 yf_X11_isWithin (As := [.int x, .int 1, .int 99]) rfl rfl ⟨(Nat.le_of_ble_eq_true rfl), (Nat.le_of_ble_eq_true rfl)⟩ ⟨(Nat.le_of_ble_eq_true rfl), (Nat.le_of_ble_eq_true rfl)⟩ hl.1 (Nat.le_of_ble_eq_true rfl) dX11_requirePrice_4 (fun r_4 _ H locs hp_4 hw => ?_)
  obtain rfl : r_4 = bI (inR x 1 99) := hp_4
  replace hw : WH G s (X) H locs := hw
  refine lv_if_ne (tgt := 21) C.1 C.2.1 dX11_requirePrice_7 (by decide) (fun c_7 => ?_) (fun c_7 => ?_)
  · refine vx_ret ?_
    exact r_vret C hw rfl () (bI_ne0.mp c_7) rfl (Nat.le_of_ble_eq_true rfl) (Nat.le_of_ble_eq_true rfl) dX11_requirePrice_21
  · exact x_thr2W C hw (sr_408 hF) (⟨rfl, bI_eq0.mp c_7⟩) rfl hnt hl.1 dX11_requirePrice_10 dX11_requirePrice_13 dX11_requirePrice_14 dX11_requirePrice_17 dX11_requirePrice_20 (Nat.le_of_ble_eq_true rfl) (Nat.le_of_ble_eq_true rfl) (Nat.le_of_ble_eq_true rfl) (Nat.le_of_ble_eq_true rfl) (Nat.le_of_ble_eq_true rfl) (Nat.le_of_ble_eq_true rfl)

set_option maxHeartbeats 4000000 in
set_option maxRecDepth 100000 in
theorem x11_requireSpread {l : Launch} {G : Gx} (hF : SF l G) {X : va_W} (x : Int32) : XI l G yX11_requireSpread cX11_requireSpread 1 .int 6 1 6 [.int x] (X) (fun r (_ : Unit) => r = x ∧ x ≠ 1000) (fun _ : Unit => X) (fun k => k = 5 ∧ x = 1000) (fun _ => X) := by
  refine mx_of hF (by decide) (Nat.le_of_ble_eq_true rfl) ?_
  intro p e s m below meth c C hnt ls hl H locs hw
  have hl : lv_has ls 1 [(0, .int x)] := hl
  refine lv_iload_n C.1 C.2.1 dX11_requireSpread_0 rfl (lv_at hl 0 rfl) ?_
  refine lv_sipush (v := 1000) C.1 C.2.1 dX11_requireSpread_1 (by decide) ?_
  refine lv_icmp_ne (tgt := 18) C.1 C.2.1 dX11_requireSpread_4 (by decide) (fun c_4 => ?_) (fun c_4 => ?_)
  · refine lv_iload_n C.1 C.2.1 dX11_requireSpread_18 rfl (lv_at hl 0 rfl) ?_
    refine vx_ret ?_
    exact r_iret C hw rfl rfl () (⟨rfl, c_4⟩) rfl (Nat.le_of_ble_eq_true rfl) (Nat.le_of_ble_eq_true rfl) dX11_requireSpread_19
  · exact x_thr5W C hw (sr_410 hF) (⟨rfl, c_4⟩) rfl hnt hl.1 dX11_requireSpread_7 dX11_requireSpread_10 dX11_requireSpread_11 dX11_requireSpread_14 dX11_requireSpread_17 (Nat.le_of_ble_eq_true rfl) (Nat.le_of_ble_eq_true rfl) (Nat.le_of_ble_eq_true rfl) (Nat.le_of_ble_eq_true rfl) (Nat.le_of_ble_eq_true rfl) (Nat.le_of_ble_eq_true rfl)

set_option maxHeartbeats 4000000 in
set_option maxRecDepth 100000 in
theorem k11_stallCount {l : Launch} {G : Gx} (hF : SF l G) {K : Nat → Nat → Nat} {S : SV} {F : Nat → Int32} {X : va_W} : MI l G yX11_stallCount cX11_stallCount 1 .int 1 0 0 [.ref (K 7 0)] (stW G (K 0) S ++ (dmO G K F ++ X)) (fun r _ => r = S.1 0) (fun _ : Unit => stW G (K 0) S ++ (dmO G K F ++ X)) := by
  refine mt_of hF (by decide) (Nat.le_of_ble_eq_true rfl) ?_
  intro p e s m below meth c C hin ls hl H locs hw
  have hl : lv_has ls 1 [(0, .ref (K 7 0))] := hl
  refine lv_aload_n C.1 C.2.1 dX11_stallCount_0 rfl (lv_at hl 0 rfl) ?_
  refine r_get C hw 19 rfl rfl in_X11 0 (by decide) fl_X11_10 rfl (v := .ref (K 0 0)) rfl dX11_stallCount_1 ?_
  refine r_get C hw 0 rfl rfl in_X9 0 (by decide) fl_X11_73 rfl (v := .ref (K 0 1)) rfl dX11_stallCount_4 ?_
  refine r_get C hw 1 rfl rfl in_X8 2 (by decide) fl_X11_123 rfl (v := .int (S.1 0)) rfl dX11_stallCount_7 ?_
  exact r_iret C hw rfl rfl () (rfl) rfl (Nat.le_of_ble_eq_true rfl) (Nat.le_of_ble_eq_true rfl) dX11_stallCount_10

set_option maxHeartbeats 4000000 in
set_option maxRecDepth 100000 in
theorem k11_orderCount {l : Launch} {G : Gx} (hF : SF l G) {K : Nat → Nat → Nat} {S : SV} {F : Nat → Int32} {X : va_W} : MI l G yX11_orderCount cX11_orderCount 1 .int 1 0 0 [.ref (K 7 0)] (stW G (K 0) S ++ (dmO G K F ++ X)) (fun r _ => r = S.1 1) (fun _ : Unit => stW G (K 0) S ++ (dmO G K F ++ X)) := by
  refine mt_of hF (by decide) (Nat.le_of_ble_eq_true rfl) ?_
  intro p e s m below meth c C hin ls hl H locs hw
  have hl : lv_has ls 1 [(0, .ref (K 7 0))] := hl
  refine lv_aload_n C.1 C.2.1 dX11_orderCount_0 rfl (lv_at hl 0 rfl) ?_
  refine r_get C hw 19 rfl rfl in_X11 0 (by decide) fl_X11_10 rfl (v := .ref (K 0 0)) rfl dX11_orderCount_1 ?_
  refine r_get C hw 0 rfl rfl in_X9 1 (by decide) fl_X11_161 rfl (v := .ref (K 0 6)) rfl dX11_orderCount_4 ?_
  refine r_get C hw 6 rfl rfl in_X1 6 (by decide) fl_X11_165 rfl (v := .int (S.1 1)) rfl dX11_orderCount_7 ?_
  exact r_iret C hw rfl rfl () (rfl) rfl (Nat.le_of_ble_eq_true rfl) (Nat.le_of_ble_eq_true rfl) dX11_orderCount_10

set_option maxHeartbeats 4000000 in
set_option maxRecDepth 100000 in
theorem k11_tradeCount {l : Launch} {G : Gx} (hF : SF l G) {K : Nat → Nat → Nat} {S : SV} {F : Nat → Int32} {X : va_W} : MI l G yX11_tradeCount cX11_tradeCount 1 .int 1 0 0 [.ref (K 7 0)] (stW G (K 0) S ++ (dmO G K F ++ X)) (fun r _ => r = S.1 6) (fun _ : Unit => stW G (K 0) S ++ (dmO G K F ++ X)) := by
  refine mt_of hF (by decide) (Nat.le_of_ble_eq_true rfl) ?_
  intro p e s m below meth c C hin ls hl H locs hw
  have hl : lv_has ls 1 [(0, .ref (K 7 0))] := hl
  refine lv_aload_n C.1 C.2.1 dX11_tradeCount_0 rfl (lv_at hl 0 rfl) ?_
  refine r_get C hw 19 rfl rfl in_X11 0 (by decide) fl_X11_10 rfl (v := .ref (K 0 0)) rfl dX11_tradeCount_1 ?_
  refine r_get C hw 0 rfl rfl in_X9 6 (by decide) fl_X11_223 rfl (v := .int (S.1 6)) rfl dX11_tradeCount_4 ?_
  exact r_iret C hw rfl rfl () (rfl) rfl (Nat.le_of_ble_eq_true rfl) (Nat.le_of_ble_eq_true rfl) dX11_tradeCount_7

set_option maxHeartbeats 4000000 in
set_option maxRecDepth 100000 in
theorem k11_tradedQuantity {l : Launch} {G : Gx} (hF : SF l G) {K : Nat → Nat → Nat} {S : SV} {F : Nat → Int32} {X : va_W} : MI l G yX11_tradedQuantity cX11_tradedQuantity 1 .int 1 0 0 [.ref (K 7 0)] (stW G (K 0) S ++ (dmO G K F ++ X)) (fun r _ => r = S.1 7) (fun _ : Unit => stW G (K 0) S ++ (dmO G K F ++ X)) := by
  refine mt_of hF (by decide) (Nat.le_of_ble_eq_true rfl) ?_
  intro p e s m below meth c C hin ls hl H locs hw
  have hl : lv_has ls 1 [(0, .ref (K 7 0))] := hl
  refine lv_aload_n C.1 C.2.1 dX11_tradedQuantity_0 rfl (lv_at hl 0 rfl) ?_
  refine r_get C hw 19 rfl rfl in_X11 0 (by decide) fl_X11_10 rfl (v := .ref (K 0 0)) rfl dX11_tradedQuantity_1 ?_
  refine r_get C hw 0 rfl rfl in_X9 7 (by decide) fl_X11_231 rfl (v := .int (S.1 7)) rfl dX11_tradedQuantity_4 ?_
  exact r_iret C hw rfl rfl () (rfl) rfl (Nat.le_of_ble_eq_true rfl) (Nat.le_of_ble_eq_true rfl) dX11_tradedQuantity_7

set_option maxHeartbeats 4000000 in
set_option maxRecDepth 100000 in
theorem k11_time {l : Launch} {G : Gx} (hF : SF l G) {K : Nat → Nat → Nat} {S : SV} {F : Nat → Int32} {X : va_W} : MI l G yX11_time cX11_time 1 .int 1 0 0 [.ref (K 7 0)] (stW G (K 0) S ++ (dmO G K F ++ X)) (fun r _ => r = S.1 3) (fun _ : Unit => stW G (K 0) S ++ (dmO G K F ++ X)) := by
  refine mt_of hF (by decide) (Nat.le_of_ble_eq_true rfl) ?_
  intro p e s m below meth c C hin ls hl H locs hw
  have hl : lv_has ls 1 [(0, .ref (K 7 0))] := hl
  refine lv_aload_n C.1 C.2.1 dX11_time_0 rfl (lv_at hl 0 rfl) ?_
  refine r_get C hw 19 rfl rfl in_X11 0 (by decide) fl_X11_10 rfl (v := .ref (K 0 0)) rfl dX11_time_1 ?_
  refine r_get C hw 0 rfl rfl in_X9 3 (by decide) fl_X11_263 rfl (v := .int (S.1 3)) rfl dX11_time_4 ?_
  exact r_iret C hw rfl rfl () (rfl) rfl (Nat.le_of_ble_eq_true rfl) (Nat.le_of_ble_eq_true rfl) dX11_time_7

set_option maxHeartbeats 4000000 in
set_option maxRecDepth 100000 in
theorem k11_isPoolOpen {l : Launch} {G : Gx} (hF : SF l G) {K : Nat → Nat → Nat} {S : SV} {F : Nat → Int32} {X : va_W} (hb : isB (S.1 2)) : MI l G yX11_isPoolOpen cX11_isPoolOpen 1 .boolean 1 0 0 [.ref (K 7 0)] (stW G (K 0) S ++ (dmO G K F ++ X)) (fun r _ => r = S.1 2) (fun _ : Unit => stW G (K 0) S ++ (dmO G K F ++ X)) := by
  refine mt_of hF (by decide) (Nat.le_of_ble_eq_true rfl) ?_
  intro p e s m below meth c C hin ls hl H locs hw
  have hl : lv_has ls 1 [(0, .ref (K 7 0))] := hl
  refine lv_aload_n C.1 C.2.1 dX11_isPoolOpen_0 rfl (lv_at hl 0 rfl) ?_
  refine r_get C hw 19 rfl rfl in_X11 0 (by decide) fl_X11_10 rfl (v := .ref (K 0 0)) rfl dX11_isPoolOpen_1 ?_
  refine r_get C hw 0 rfl rfl in_X9 2 (by decide) fl_X11_246 rfl (v := .int (S.1 2)) rfl dX11_isPoolOpen_4 ?_
  exact r_iret C hw rfl (isB_nar hb) () (rfl) rfl (Nat.le_of_ble_eq_true rfl) (Nat.le_of_ble_eq_true rfl) dX11_isPoolOpen_7

set_option maxHeartbeats 4000000 in
set_option maxRecDepth 100000 in
theorem k11_turnover {l : Launch} {G : Gx} (hF : SF l G) {K : Nat → Nat → Nat} {S : SV} {F : Nat → Int32} {X : va_W} : ML l G yX11_turnover cX11_turnover 1 1 0 0 [.ref (K 7 0)] (stW G (K 0) S ++ (dmO G K F ++ X)) (fun r _ => r = S.2.2) (fun _ : Unit => stW G (K 0) S ++ (dmO G K F ++ X)) := by
  refine mt_of hF (by decide) (Nat.le_of_ble_eq_true rfl) ?_
  intro p e s m below meth c C hin ls hl H locs hw
  have hl : lv_has ls 1 [(0, .ref (K 7 0))] := hl
  refine lv_aload_n C.1 C.2.1 dX11_turnover_0 rfl (lv_at hl 0 rfl) ?_
  refine r_get C hw 19 rfl rfl in_X11 0 (by decide) fl_X11_10 rfl (v := .ref (K 0 0)) rfl dX11_turnover_1 ?_
  refine r_get C hw 0 rfl rfl in_X9 8 (by decide) fl_X11_234 rfl (v := .long S.2.2) rfl dX11_turnover_4 ?_
  exact r_lret C hw rfl () (rfl) rfl (Nat.le_of_ble_eq_true rfl) (Nat.le_of_ble_eq_true rfl) dX11_turnover_7

set_option maxHeartbeats 4000000 in
set_option maxRecDepth 100000 in
theorem x11_moneyOf {l : Launch} {G : Gx} (hF : SF l G) {K : Nat → Nat → Nat} {S : SV} {F : Nat → Int32} {X : va_W} (ok : okS S) (x : Int32) : XI l G yX11_moneyOf cX11_moneyOf 2 .int 7 1 6 [.ref (K 7 0), .int x] (stW G (K 0) S ++ (dmO G K F ++ X)) (fun r _ => hasN x (nT S) = true ∧ r = rget 6 (S.2.1 0) x) (fun _ : Unit => stW G (K 0) S ++ (dmO G K F ++ X)) (fun k => k = 1 ∧ hasN x (nT S) = false) (fun _ => stW G (K 0) S ++ (dmO G K F ++ X)) := by
  refine mx_of hF (by decide) (Nat.le_of_ble_eq_true rfl) ?_
  intro p e s m below meth c C hnt ls hl H locs hw
  have hl : lv_has ls 2 [(0, .ref (K 7 0)), (1, .int x)] := hl
  refine lv_aload_n C.1 C.2.1 dX11_moneyOf_0 rfl (lv_at hl 0 rfl) ?_
  refine lv_iload_n C.1 C.2.1 dX11_moneyOf_1 rfl (lv_at hl 1 rfl) ?_
  refine x_vv C hw (x11_requireStall hF ok x (K := K) (F := F) (S := S) (X := X)) ml_X11_126 yf_X11_requireStall 19 rfl rfl (As := [.int x]) rfl rfl ⟨(Nat.le_of_ble_eq_true rfl), (Nat.le_of_ble_eq_true rfl)⟩ ⟨(Nat.le_of_ble_eq_true rfl), (Nat.le_of_ble_eq_true rfl)⟩ hl.1 (Nat.le_of_ble_eq_true rfl) dX11_moneyOf_2 hnt (fun k hk => ⟨hk, rfl⟩) (Nat.le_of_ble_eq_true rfl) (Nat.le_of_ble_eq_true rfl) (fun u_2 H locs hp_2 hw => ?_)
  replace hw : WH G s (stW G (K 0) S ++ (dmO G K F ++ X)) H locs := hw
  refine lv_aload_n C.1 C.2.1 dX11_moneyOf_5 rfl (lv_at hl 0 rfl) ?_
  refine r_get C hw 19 rfl rfl in_X11 0 (by decide) fl_X11_10 rfl (v := .ref (K 0 0)) rfl dX11_moneyOf_6 ?_
  refine r_get C hw 0 rfl rfl in_X9 0 (by decide) fl_X11_73 rfl (v := .ref (K 0 1)) rfl dX11_moneyOf_9 ?_
  refine r_get C hw 1 rfl rfl in_X8 0 (by decide) fl_X11_130 rfl (v := .ref (K 0 2)) rfl dX11_moneyOf_12 ?_
  refine lv_iload_n C.1 C.2.1 dX11_moneyOf_15 rfl (lv_at hl 1 rfl) ?_
  refine r_vi C hw (k7_get hF (strow_0 G (K 0) S (dmO G K F ++ X)) (by decide) (strow_e G (K 0) S (dmO G K F ++ X) 0) x) ml_X11_134 yf_X7_get 2 rfl rfl (As := [.int x]) rfl rfl ⟨(Nat.le_of_ble_eq_true rfl), (Nat.le_of_ble_eq_true rfl)⟩ ⟨(Nat.le_of_ble_eq_true rfl), (Nat.le_of_ble_eq_true rfl)⟩ hl.1 (Nat.le_of_ble_eq_true rfl) dX11_moneyOf_16 (fun r_16 _ H locs hp_16 hw => ?_)
  obtain rfl : r_16 = rget 6 (S.2.1 0) x := hp_16
  replace hw : WH G s (stW G (K 0) S ++ (dmO G K F ++ X)) H locs := hw
  refine vx_ret ?_
  exact r_iret C hw rfl rfl () (⟨hp_2, rfl⟩) rfl (Nat.le_of_ble_eq_true rfl) (Nat.le_of_ble_eq_true rfl) dX11_moneyOf_19

set_option maxHeartbeats 4000000 in
set_option maxRecDepth 100000 in
theorem x11_dropsOf {l : Launch} {G : Gx} (hF : SF l G) {K : Nat → Nat → Nat} {S : SV} {F : Nat → Int32} {X : va_W} (ok : okS S) (x : Int32) : XI l G yX11_dropsOf cX11_dropsOf 2 .int 7 1 6 [.ref (K 7 0), .int x] (stW G (K 0) S ++ (dmO G K F ++ X)) (fun r _ => hasN x (nT S) = true ∧ r = rget 6 (S.2.1 1) x) (fun _ : Unit => stW G (K 0) S ++ (dmO G K F ++ X)) (fun k => k = 1 ∧ hasN x (nT S) = false) (fun _ => stW G (K 0) S ++ (dmO G K F ++ X)) := by
  refine mx_of hF (by decide) (Nat.le_of_ble_eq_true rfl) ?_
  intro p e s m below meth c C hnt ls hl H locs hw
  have hl : lv_has ls 2 [(0, .ref (K 7 0)), (1, .int x)] := hl
  refine lv_aload_n C.1 C.2.1 dX11_dropsOf_0 rfl (lv_at hl 0 rfl) ?_
  refine lv_iload_n C.1 C.2.1 dX11_dropsOf_1 rfl (lv_at hl 1 rfl) ?_
  refine x_vv C hw (x11_requireStall hF ok x (K := K) (F := F) (S := S) (X := X)) ml_X11_126 yf_X11_requireStall 19 rfl rfl (As := [.int x]) rfl rfl ⟨(Nat.le_of_ble_eq_true rfl), (Nat.le_of_ble_eq_true rfl)⟩ ⟨(Nat.le_of_ble_eq_true rfl), (Nat.le_of_ble_eq_true rfl)⟩ hl.1 (Nat.le_of_ble_eq_true rfl) dX11_dropsOf_2 hnt (fun k hk => ⟨hk, rfl⟩) (Nat.le_of_ble_eq_true rfl) (Nat.le_of_ble_eq_true rfl) (fun u_2 H locs hp_2 hw => ?_)
  replace hw : WH G s (stW G (K 0) S ++ (dmO G K F ++ X)) H locs := hw
  refine lv_aload_n C.1 C.2.1 dX11_dropsOf_5 rfl (lv_at hl 0 rfl) ?_
  refine r_get C hw 19 rfl rfl in_X11 0 (by decide) fl_X11_10 rfl (v := .ref (K 0 0)) rfl dX11_dropsOf_6 ?_
  refine r_get C hw 0 rfl rfl in_X9 0 (by decide) fl_X11_73 rfl (v := .ref (K 0 1)) rfl dX11_dropsOf_9 ?_
  refine r_get C hw 1 rfl rfl in_X8 1 (by decide) fl_X11_139 rfl (v := .ref (K 0 4)) rfl dX11_dropsOf_12 ?_
  refine lv_iload_n C.1 C.2.1 dX11_dropsOf_15 rfl (lv_at hl 1 rfl) ?_
  refine r_vi C hw (k7_get hF (strow_1 G (K 0) S (dmO G K F ++ X)) (by decide) (strow_e G (K 0) S (dmO G K F ++ X) 1) x) ml_X11_134 yf_X7_get 4 rfl rfl (As := [.int x]) rfl rfl ⟨(Nat.le_of_ble_eq_true rfl), (Nat.le_of_ble_eq_true rfl)⟩ ⟨(Nat.le_of_ble_eq_true rfl), (Nat.le_of_ble_eq_true rfl)⟩ hl.1 (Nat.le_of_ble_eq_true rfl) dX11_dropsOf_16 (fun r_16 _ H locs hp_16 hw => ?_)
  obtain rfl : r_16 = rget 6 (S.2.1 1) x := hp_16
  replace hw : WH G s (stW G (K 0) S ++ (dmO G K F ++ X)) H locs := hw
  refine vx_ret ?_
  exact r_iret C hw rfl rfl () (⟨hp_2, rfl⟩) rfl (Nat.le_of_ble_eq_true rfl) (Nat.le_of_ble_eq_true rfl) dX11_dropsOf_19

set_option maxHeartbeats 4000000 in
set_option maxRecDepth 100000 in
theorem x11_freeMoneyOf {l : Launch} {G : Gx} (hF : SF l G) {K : Nat → Nat → Nat} {S : SV} {F : Nat → Int32} {X : va_W} (ok : okS S) (x : Int32) : XI l G yX11_freeMoneyOf cX11_freeMoneyOf 2 .int 7 1 6 [.ref (K 7 0), .int x] (stW G (K 0) S ++ (dmO G K F ++ X)) (fun r _ => hasN x (nT S) = true ∧ r = frM S x) (fun _ : Unit => stW G (K 0) S ++ (dmO G K F ++ X)) (fun k => k = 1 ∧ hasN x (nT S) = false) (fun _ => stW G (K 0) S ++ (dmO G K F ++ X)) := by
  refine mx_of hF (by decide) (Nat.le_of_ble_eq_true rfl) ?_
  intro p e s m below meth c C hnt ls hl H locs hw
  have hl : lv_has ls 2 [(0, .ref (K 7 0)), (1, .int x)] := hl
  refine lv_aload_n C.1 C.2.1 dX11_freeMoneyOf_0 rfl (lv_at hl 0 rfl) ?_
  refine lv_iload_n C.1 C.2.1 dX11_freeMoneyOf_1 rfl (lv_at hl 1 rfl) ?_
  refine x_vv C hw (x11_requireStall hF ok x (K := K) (F := F) (S := S) (X := X)) ml_X11_126 yf_X11_requireStall 19 rfl rfl (As := [.int x]) rfl rfl ⟨(Nat.le_of_ble_eq_true rfl), (Nat.le_of_ble_eq_true rfl)⟩ ⟨(Nat.le_of_ble_eq_true rfl), (Nat.le_of_ble_eq_true rfl)⟩ hl.1 (Nat.le_of_ble_eq_true rfl) dX11_freeMoneyOf_2 hnt (fun k hk => ⟨hk, rfl⟩) (Nat.le_of_ble_eq_true rfl) (Nat.le_of_ble_eq_true rfl) (fun u_2 H locs hp_2 hw => ?_)
  replace hw : WH G s (stW G (K 0) S ++ (dmO G K F ++ X)) H locs := hw
  refine lv_aload_n C.1 C.2.1 dX11_freeMoneyOf_5 rfl (lv_at hl 0 rfl) ?_
  refine r_get C hw 19 rfl rfl in_X11 0 (by decide) fl_X11_10 rfl (v := .ref (K 0 0)) rfl dX11_freeMoneyOf_6 ?_
  refine lv_iload_n C.1 C.2.1 dX11_freeMoneyOf_9 rfl (lv_at hl 1 rfl) ?_
  refine r_vi C hw (k9_freeMoney hF (a := (K 0)) (S := S) (X := (dmO G K F ++ X)) ok x) ml_X11_142 yf_X9_freeMoney 0 rfl rfl (As := [.int x]) rfl rfl ⟨(Nat.le_of_ble_eq_true rfl), (Nat.le_of_ble_eq_true rfl)⟩ ⟨(Nat.le_of_ble_eq_true rfl), (Nat.le_of_ble_eq_true rfl)⟩ hl.1 (Nat.le_of_ble_eq_true rfl) dX11_freeMoneyOf_10 (fun r_10 _ H locs hp_10 hw => ?_)
  obtain rfl : r_10 = frM S x := hp_10
  replace hw : WH G s (stW G (K 0) S ++ (dmO G K F ++ X)) H locs := hw
  refine vx_ret ?_
  exact r_iret C hw rfl rfl () (⟨hp_2, rfl⟩) rfl (Nat.le_of_ble_eq_true rfl) (Nat.le_of_ble_eq_true rfl) dX11_freeMoneyOf_13

set_option maxHeartbeats 4000000 in
set_option maxRecDepth 100000 in
theorem x11_freeDropsOf {l : Launch} {G : Gx} (hF : SF l G) {K : Nat → Nat → Nat} {S : SV} {F : Nat → Int32} {X : va_W} (ok : okS S) (x : Int32) : XI l G yX11_freeDropsOf cX11_freeDropsOf 2 .int 7 1 6 [.ref (K 7 0), .int x] (stW G (K 0) S ++ (dmO G K F ++ X)) (fun r _ => hasN x (nT S) = true ∧ r = frD S x) (fun _ : Unit => stW G (K 0) S ++ (dmO G K F ++ X)) (fun k => k = 1 ∧ hasN x (nT S) = false) (fun _ => stW G (K 0) S ++ (dmO G K F ++ X)) := by
  refine mx_of hF (by decide) (Nat.le_of_ble_eq_true rfl) ?_
  intro p e s m below meth c C hnt ls hl H locs hw
  have hl : lv_has ls 2 [(0, .ref (K 7 0)), (1, .int x)] := hl
  refine lv_aload_n C.1 C.2.1 dX11_freeDropsOf_0 rfl (lv_at hl 0 rfl) ?_
  refine lv_iload_n C.1 C.2.1 dX11_freeDropsOf_1 rfl (lv_at hl 1 rfl) ?_
  refine x_vv C hw (x11_requireStall hF ok x (K := K) (F := F) (S := S) (X := X)) ml_X11_126 yf_X11_requireStall 19 rfl rfl (As := [.int x]) rfl rfl ⟨(Nat.le_of_ble_eq_true rfl), (Nat.le_of_ble_eq_true rfl)⟩ ⟨(Nat.le_of_ble_eq_true rfl), (Nat.le_of_ble_eq_true rfl)⟩ hl.1 (Nat.le_of_ble_eq_true rfl) dX11_freeDropsOf_2 hnt (fun k hk => ⟨hk, rfl⟩) (Nat.le_of_ble_eq_true rfl) (Nat.le_of_ble_eq_true rfl) (fun u_2 H locs hp_2 hw => ?_)
  replace hw : WH G s (stW G (K 0) S ++ (dmO G K F ++ X)) H locs := hw
  refine lv_aload_n C.1 C.2.1 dX11_freeDropsOf_5 rfl (lv_at hl 0 rfl) ?_
  refine r_get C hw 19 rfl rfl in_X11 0 (by decide) fl_X11_10 rfl (v := .ref (K 0 0)) rfl dX11_freeDropsOf_6 ?_
  refine lv_iload_n C.1 C.2.1 dX11_freeDropsOf_9 rfl (lv_at hl 1 rfl) ?_
  refine r_vi C hw (k9_freeDrops hF (a := (K 0)) (S := S) (X := (dmO G K F ++ X)) ok x) ml_X11_145 yf_X9_freeDrops 0 rfl rfl (As := [.int x]) rfl rfl ⟨(Nat.le_of_ble_eq_true rfl), (Nat.le_of_ble_eq_true rfl)⟩ ⟨(Nat.le_of_ble_eq_true rfl), (Nat.le_of_ble_eq_true rfl)⟩ hl.1 (Nat.le_of_ble_eq_true rfl) dX11_freeDropsOf_10 (fun r_10 _ H locs hp_10 hw => ?_)
  obtain rfl : r_10 = frD S x := hp_10
  replace hw : WH G s (stW G (K 0) S ++ (dmO G K F ++ X)) H locs := hw
  refine vx_ret ?_
  exact r_iret C hw rfl rfl () (⟨hp_2, rfl⟩) rfl (Nat.le_of_ble_eq_true rfl) (Nat.le_of_ble_eq_true rfl) dX11_freeDropsOf_13

set_option maxHeartbeats 4000000 in
set_option maxRecDepth 100000 in
theorem x11_stallByMoney {l : Launch} {G : Gx} (hF : SF l G) {K : Nat → Nat → Nat} {S : SV} {F : Nat → Int32} {X : va_W} (ok : okS S) (x : Int32) : XI l G yX11_stallByMoney cX11_stallByMoney 3 .int 6 1 6 [.ref (K 7 0), .int x] (stW G (K 0) S ++ (dmO G K F ++ X)) (fun r _ => ∃ j, j < nT S ∧ rkF S (nT S) x = some j ∧ r = nI j) (fun _ : Unit => stW G (K 0) S ++ (dmO G K F ++ X)) (fun k => k = 5 ∧ rkF S (nT S) x = none) (fun _ => stW G (K 0) S ++ (dmO G K F ++ X)) := by
  refine mx_of hF (by decide) (Nat.le_of_ble_eq_true rfl) ?_
  intro p e s m below meth c C hnt ls hl H locs hw
  have hl : lv_has ls 3 [(0, .ref (K 7 0)), (1, .int x)] := hl
  refine lv_aload_n C.1 C.2.1 dX11_stallByMoney_0 rfl (lv_at hl 0 rfl) ?_
  refine r_get C hw 19 rfl rfl in_X11 0 (by decide) fl_X11_10 rfl (v := .ref (K 0 0)) rfl dX11_stallByMoney_1 ?_
  refine r_get C hw 0 rfl rfl in_X9 0 (by decide) fl_X11_73 rfl (v := .ref (K 0 1)) rfl dX11_stallByMoney_4 ?_
  refine lv_iload_n C.1 C.2.1 dX11_stallByMoney_7 rfl (lv_at hl 1 rfl) ?_
  refine r_vi C hw (k8_withRank hF (a := (K 0)) (S := S) (X := (dmO G K F ++ X)) ok.2.2.1 ok.2.2.2 x) ml_X11_151 yf_X8_withRank 1 rfl rfl (As := [.int x]) rfl rfl ⟨(Nat.le_of_ble_eq_true rfl), (Nat.le_of_ble_eq_true rfl)⟩ ⟨(Nat.le_of_ble_eq_true rfl), (Nat.le_of_ble_eq_true rfl)⟩ hl.1 (Nat.le_of_ble_eq_true rfl) dX11_stallByMoney_8 (fun r_8 _ H locs hp_8 hw => ?_)
  obtain rfl : r_8 = oI (rkF S (nT S) x) := hp_8
  replace hw : WH G s (stW G (K 0) S ++ (dmO G K F ++ X)) H locs := hw
  refine lv_istore_n (lv' := [(2, .int (oI (rkF S (nT S) x))), (0, .ref (K 7 0)), (1, .int x)]) C.1 C.2.1 dX11_stallByMoney_11 rfl hl (by decide) rfl (fun ls hl => ?_)
  refine lv_iload_n C.1 C.2.1 dX11_stallByMoney_12 rfl (lv_at hl 0 rfl) ?_
  refine lv_iconst (v := -1) C.1 C.2.1 dX11_stallByMoney_13 (by decide) ?_
  refine lv_icmp_ne (tgt := 27) C.1 C.2.1 dX11_stallByMoney_14 (by decide) (fun c_14 => ?_) (fun c_14 => ?_)
  · refine lv_iload_n C.1 C.2.1 dX11_stallByMoney_27 rfl (lv_at hl 0 rfl) ?_
    refine vx_ret ?_
    exact r_iret C hw rfl rfl () (by cases hz : rkF S (nT S) x with | none => rw [hz] at c_14; exact absurd rfl c_14 | some j => exact ⟨j, (fnd_lt hz).1, rfl, rfl⟩) rfl (Nat.le_of_ble_eq_true rfl) (Nat.le_of_ble_eq_true rfl) dX11_stallByMoney_28
  · exact x_thr5 C hw (sr_156 hF) (⟨rfl, (oI_none (fun j hj => by have := (fnd_lt hj).1; have := ok.2.1; have := ok.2.2.2; omega)).mp c_14⟩) rfl hnt hl.1 dX11_stallByMoney_17 dX11_stallByMoney_20 dX11_stallByMoney_21 dX11_stallByMoney_23 dX11_stallByMoney_26 (Nat.le_of_ble_eq_true rfl) (Nat.le_of_ble_eq_true rfl) (Nat.le_of_ble_eq_true rfl) (Nat.le_of_ble_eq_true rfl) (Nat.le_of_ble_eq_true rfl) (Nat.le_of_ble_eq_true rfl)

set_option maxHeartbeats 4000000 in
set_option maxRecDepth 100000 in
theorem x11_orderAt {l : Launch} {G : Gx} (hF : SF l G) {K : Nat → Nat → Nat} {S : SV} {F : Nat → Int32} {X : va_W} (ok : okS S) (x : Int32) : XI l G yX11_orderAt cX11_orderAt 2 .int 6 1 6 [.ref (K 7 0), .int x] (stW G (K 0) S ++ (dmO G K F ++ X)) (fun r _ => (¬ x < 0 ∧ x < S.1 1) ∧ r = rget 20 (S.2.1 2) x) (fun _ : Unit => stW G (K 0) S ++ (dmO G K F ++ X)) (fun k => k = 1 ∧ (x < 0 ∨ ¬ x < S.1 1)) (fun _ => stW G (K 0) S ++ (dmO G K F ++ X)) := by
  refine mx_of hF (by decide) (Nat.le_of_ble_eq_true rfl) ?_
  intro p e s m below meth c C hnt ls hl H locs hw
  have hl : lv_has ls 2 [(0, .ref (K 7 0)), (1, .int x)] := hl
  refine lv_iload_n C.1 C.2.1 dX11_orderAt_0 rfl (lv_at hl 1 rfl) ?_
  refine lv_if_lt (tgt := 18) C.1 C.2.1 dX11_orderAt_1 (by decide) (fun c_1 => ?_) (fun c_1 => ?_)
  · exact x_thr1 C hw (sr_170 hF) (⟨rfl, Or.inl c_1⟩) rfl hnt hl.1 dX11_orderAt_18 dX11_orderAt_21 dX11_orderAt_22 dX11_orderAt_24 dX11_orderAt_27 (Nat.le_of_ble_eq_true rfl) (Nat.le_of_ble_eq_true rfl) (Nat.le_of_ble_eq_true rfl) (Nat.le_of_ble_eq_true rfl) (Nat.le_of_ble_eq_true rfl) (Nat.le_of_ble_eq_true rfl)
  · refine lv_iload_n C.1 C.2.1 dX11_orderAt_4 rfl (lv_at hl 1 rfl) ?_
    refine lv_aload_n C.1 C.2.1 dX11_orderAt_5 rfl (lv_at hl 0 rfl) ?_
    refine r_get C hw 19 rfl rfl in_X11 0 (by decide) fl_X11_10 rfl (v := .ref (K 0 0)) rfl dX11_orderAt_6 ?_
    refine r_get C hw 0 rfl rfl in_X9 1 (by decide) fl_X11_161 rfl (v := .ref (K 0 6)) rfl dX11_orderAt_9 ?_
    refine r_get C hw 6 rfl rfl in_X1 6 (by decide) fl_X11_165 rfl (v := .int (S.1 1)) rfl dX11_orderAt_12 ?_
    refine lv_icmp_lt (tgt := 28) C.1 C.2.1 dX11_orderAt_15 (by decide) (fun c_15 => ?_) (fun c_15 => ?_)
    · refine lv_aload_n C.1 C.2.1 dX11_orderAt_28 rfl (lv_at hl 0 rfl) ?_
      refine r_get C hw 19 rfl rfl in_X11 0 (by decide) fl_X11_10 rfl (v := .ref (K 0 0)) rfl dX11_orderAt_29 ?_
      refine r_get C hw 0 rfl rfl in_X9 1 (by decide) fl_X11_161 rfl (v := .ref (K 0 6)) rfl dX11_orderAt_32 ?_
      refine r_get C hw 6 rfl rfl in_X1 0 (by decide) fl_X11_173 rfl (v := .ref (K 0 7)) rfl dX11_orderAt_35 ?_
      refine lv_iload_n C.1 C.2.1 dX11_orderAt_38 rfl (lv_at hl 1 rfl) ?_
      refine r_vi C hw (k7_get hF (strow_2 G (K 0) S (dmO G K F ++ X)) (by decide) (strow_e G (K 0) S (dmO G K F ++ X) 2) x) ml_X11_134 yf_X7_get 7 rfl rfl (As := [.int x]) rfl rfl ⟨(Nat.le_of_ble_eq_true rfl), (Nat.le_of_ble_eq_true rfl)⟩ ⟨(Nat.le_of_ble_eq_true rfl), (Nat.le_of_ble_eq_true rfl)⟩ hl.1 (Nat.le_of_ble_eq_true rfl) dX11_orderAt_39 (fun r_39 _ H locs hp_39 hw => ?_)
      obtain rfl : r_39 = rget 20 (S.2.1 2) x := hp_39
      replace hw : WH G s (stW G (K 0) S ++ (dmO G K F ++ X)) H locs := hw
      refine vx_ret ?_
      exact r_iret C hw rfl rfl () (⟨⟨c_1, c_15⟩, rfl⟩) rfl (Nat.le_of_ble_eq_true rfl) (Nat.le_of_ble_eq_true rfl) dX11_orderAt_42
    · exact x_thr1 C hw (sr_170 hF) (⟨rfl, Or.inr c_15⟩) rfl hnt hl.1 dX11_orderAt_18 dX11_orderAt_21 dX11_orderAt_22 dX11_orderAt_24 dX11_orderAt_27 (Nat.le_of_ble_eq_true rfl) (Nat.le_of_ble_eq_true rfl) (Nat.le_of_ble_eq_true rfl) (Nat.le_of_ble_eq_true rfl) (Nat.le_of_ble_eq_true rfl) (Nat.le_of_ble_eq_true rfl)

set_option maxHeartbeats 4000000 in
set_option maxRecDepth 100000 in
theorem x11_stallOf {l : Launch} {G : Gx} (hF : SF l G) {K : Nat → Nat → Nat} {S : SV} {F : Nat → Int32} {X : va_W} (ok : okS S) (x : Int32) : XI l G yX11_stallOf cX11_stallOf 2 .int 7 1 6 [.ref (K 7 0), .int x] (stW G (K 0) S ++ (dmO G K F ++ X)) (fun r _ => ∃ j, j < nO S ∧ slotF S x (nO S) = some j ∧ r = S.2.1 3 j) (fun _ : Unit => stW G (K 0) S ++ (dmO G K F ++ X)) (fun k => k = 5 ∧ slotF S x (nO S) = none) (fun _ => stW G (K 0) S ++ (dmO G K F ++ X)) := by
  refine mx_of hF (by decide) (Nat.le_of_ble_eq_true rfl) ?_
  intro p e s m below meth c C hnt ls hl H locs hw
  have hl : lv_has ls 2 [(0, .ref (K 7 0)), (1, .int x)] := hl
  refine lv_aload_n C.1 C.2.1 dX11_stallOf_0 rfl (lv_at hl 0 rfl) ?_
  refine r_get C hw 19 rfl rfl in_X11 0 (by decide) fl_X11_10 rfl (v := .ref (K 0 0)) rfl dX11_stallOf_1 ?_
  refine r_get C hw 0 rfl rfl in_X9 1 (by decide) fl_X11_161 rfl (v := .ref (K 0 6)) rfl dX11_stallOf_4 ?_
  refine r_get C hw 6 rfl rfl in_X1 1 (by decide) fl_X11_176 rfl (v := .ref (K 0 9)) rfl dX11_stallOf_7 ?_
  refine lv_aload_n C.1 C.2.1 dX11_stallOf_10 rfl (lv_at hl 0 rfl) ?_
  refine lv_iload_n C.1 C.2.1 dX11_stallOf_11 rfl (lv_at hl 1 rfl) ?_
  refine x_vi C hw (x11_requireSlot hF ok x (K := K) (F := F) (S := S) (X := X)) ml_X11_178 yf_X11_requireSlot 19 rfl rfl (As := [.int x]) rfl rfl ⟨(Nat.le_of_ble_eq_true rfl), (Nat.le_of_ble_eq_true rfl)⟩ ⟨(Nat.le_of_ble_eq_true rfl), (Nat.le_of_ble_eq_true rfl)⟩ hl.1 (Nat.le_of_ble_eq_true rfl) dX11_stallOf_12 hnt (fun k hk => ⟨hk, rfl⟩) (Nat.le_of_ble_eq_true rfl) (Nat.le_of_ble_eq_true rfl) (fun r_12 u_12 H locs hp_12 hw => ?_)
  obtain ⟨j, hj, hsl, hr_12⟩ := hp_12
  have hj20 : j < 20 := Nat.lt_of_lt_of_le hj ok.2.1
  rw [hr_12]
  replace hw : WH G s (stW G (K 0) S ++ (dmO G K F ++ X)) H locs := hw
  refine r_vi C hw (k7_get hF (strow_3 G (K 0) S (dmO G K F ++ X)) (by decide) (strow_e G (K 0) S (dmO G K F ++ X) 3) (nI j)) ml_X11_134 yf_X7_get 9 rfl rfl (As := [.int (nI j)]) rfl rfl ⟨Nat.le_of_ble_eq_true rfl, Nat.le_of_ble_eq_true rfl⟩ ⟨Nat.le_of_ble_eq_true rfl, Nat.le_of_ble_eq_true rfl⟩ hl.1 (Nat.le_of_ble_eq_true rfl) dX11_stallOf_15 (fun r_15 _ H locs hp_15 hw => ?_)
  obtain rfl : r_15 = ((S.2.1 3) j) := by rw [hp_15]; exact rget_nI (by omega) (by decide)
  replace hw : WH G s (stW G (K 0) S ++ (dmO G K F ++ X)) H locs := hw
  refine vx_ret ?_
  exact r_iret C hw rfl rfl () (⟨j, hj, hsl, rfl⟩) rfl (Nat.le_of_ble_eq_true rfl) (Nat.le_of_ble_eq_true rfl) dX11_stallOf_18

set_option maxHeartbeats 4000000 in
set_option maxRecDepth 100000 in
theorem x11_priceOf {l : Launch} {G : Gx} (hF : SF l G) {K : Nat → Nat → Nat} {S : SV} {F : Nat → Int32} {X : va_W} (ok : okS S) (x : Int32) : XI l G yX11_priceOf cX11_priceOf 2 .int 7 1 6 [.ref (K 7 0), .int x] (stW G (K 0) S ++ (dmO G K F ++ X)) (fun r _ => ∃ j, j < nO S ∧ slotF S x (nO S) = some j ∧ r = S.2.1 5 j) (fun _ : Unit => stW G (K 0) S ++ (dmO G K F ++ X)) (fun k => k = 5 ∧ slotF S x (nO S) = none) (fun _ => stW G (K 0) S ++ (dmO G K F ++ X)) := by
  refine mx_of hF (by decide) (Nat.le_of_ble_eq_true rfl) ?_
  intro p e s m below meth c C hnt ls hl H locs hw
  have hl : lv_has ls 2 [(0, .ref (K 7 0)), (1, .int x)] := hl
  refine lv_aload_n C.1 C.2.1 dX11_priceOf_0 rfl (lv_at hl 0 rfl) ?_
  refine r_get C hw 19 rfl rfl in_X11 0 (by decide) fl_X11_10 rfl (v := .ref (K 0 0)) rfl dX11_priceOf_1 ?_
  refine r_get C hw 0 rfl rfl in_X9 1 (by decide) fl_X11_161 rfl (v := .ref (K 0 6)) rfl dX11_priceOf_4 ?_
  refine r_get C hw 6 rfl rfl in_X1 3 (by decide) fl_X11_185 rfl (v := .ref (K 0 13)) rfl dX11_priceOf_7 ?_
  refine lv_aload_n C.1 C.2.1 dX11_priceOf_10 rfl (lv_at hl 0 rfl) ?_
  refine lv_iload_n C.1 C.2.1 dX11_priceOf_11 rfl (lv_at hl 1 rfl) ?_
  refine x_vi C hw (x11_requireSlot hF ok x (K := K) (F := F) (S := S) (X := X)) ml_X11_178 yf_X11_requireSlot 19 rfl rfl (As := [.int x]) rfl rfl ⟨(Nat.le_of_ble_eq_true rfl), (Nat.le_of_ble_eq_true rfl)⟩ ⟨(Nat.le_of_ble_eq_true rfl), (Nat.le_of_ble_eq_true rfl)⟩ hl.1 (Nat.le_of_ble_eq_true rfl) dX11_priceOf_12 hnt (fun k hk => ⟨hk, rfl⟩) (Nat.le_of_ble_eq_true rfl) (Nat.le_of_ble_eq_true rfl) (fun r_12 u_12 H locs hp_12 hw => ?_)
  obtain ⟨j, hj, hsl, hr_12⟩ := hp_12
  have hj20 : j < 20 := Nat.lt_of_lt_of_le hj ok.2.1
  rw [hr_12]
  replace hw : WH G s (stW G (K 0) S ++ (dmO G K F ++ X)) H locs := hw
  refine r_vi C hw (k7_get hF (strow_5 G (K 0) S (dmO G K F ++ X)) (by decide) (strow_e G (K 0) S (dmO G K F ++ X) 5) (nI j)) ml_X11_134 yf_X7_get 13 rfl rfl (As := [.int (nI j)]) rfl rfl ⟨Nat.le_of_ble_eq_true rfl, Nat.le_of_ble_eq_true rfl⟩ ⟨Nat.le_of_ble_eq_true rfl, Nat.le_of_ble_eq_true rfl⟩ hl.1 (Nat.le_of_ble_eq_true rfl) dX11_priceOf_15 (fun r_15 _ H locs hp_15 hw => ?_)
  obtain rfl : r_15 = ((S.2.1 5) j) := by rw [hp_15]; exact rget_nI (by omega) (by decide)
  replace hw : WH G s (stW G (K 0) S ++ (dmO G K F ++ X)) H locs := hw
  refine vx_ret ?_
  exact r_iret C hw rfl rfl () (⟨j, hj, hsl, rfl⟩) rfl (Nat.le_of_ble_eq_true rfl) (Nat.le_of_ble_eq_true rfl) dX11_priceOf_18

set_option maxHeartbeats 4000000 in
set_option maxRecDepth 100000 in
theorem x11_quantityOf {l : Launch} {G : Gx} (hF : SF l G) {K : Nat → Nat → Nat} {S : SV} {F : Nat → Int32} {X : va_W} (ok : okS S) (x : Int32) : XI l G yX11_quantityOf cX11_quantityOf 2 .int 7 1 6 [.ref (K 7 0), .int x] (stW G (K 0) S ++ (dmO G K F ++ X)) (fun r _ => ∃ j, j < nO S ∧ slotF S x (nO S) = some j ∧ r = S.2.1 6 j) (fun _ : Unit => stW G (K 0) S ++ (dmO G K F ++ X)) (fun k => k = 5 ∧ slotF S x (nO S) = none) (fun _ => stW G (K 0) S ++ (dmO G K F ++ X)) := by
  refine mx_of hF (by decide) (Nat.le_of_ble_eq_true rfl) ?_
  intro p e s m below meth c C hnt ls hl H locs hw
  have hl : lv_has ls 2 [(0, .ref (K 7 0)), (1, .int x)] := hl
  refine lv_aload_n C.1 C.2.1 dX11_quantityOf_0 rfl (lv_at hl 0 rfl) ?_
  refine r_get C hw 19 rfl rfl in_X11 0 (by decide) fl_X11_10 rfl (v := .ref (K 0 0)) rfl dX11_quantityOf_1 ?_
  refine r_get C hw 0 rfl rfl in_X9 1 (by decide) fl_X11_161 rfl (v := .ref (K 0 6)) rfl dX11_quantityOf_4 ?_
  refine r_get C hw 6 rfl rfl in_X1 4 (by decide) fl_X11_188 rfl (v := .ref (K 0 15)) rfl dX11_quantityOf_7 ?_
  refine lv_aload_n C.1 C.2.1 dX11_quantityOf_10 rfl (lv_at hl 0 rfl) ?_
  refine lv_iload_n C.1 C.2.1 dX11_quantityOf_11 rfl (lv_at hl 1 rfl) ?_
  refine x_vi C hw (x11_requireSlot hF ok x (K := K) (F := F) (S := S) (X := X)) ml_X11_178 yf_X11_requireSlot 19 rfl rfl (As := [.int x]) rfl rfl ⟨(Nat.le_of_ble_eq_true rfl), (Nat.le_of_ble_eq_true rfl)⟩ ⟨(Nat.le_of_ble_eq_true rfl), (Nat.le_of_ble_eq_true rfl)⟩ hl.1 (Nat.le_of_ble_eq_true rfl) dX11_quantityOf_12 hnt (fun k hk => ⟨hk, rfl⟩) (Nat.le_of_ble_eq_true rfl) (Nat.le_of_ble_eq_true rfl) (fun r_12 u_12 H locs hp_12 hw => ?_)
  obtain ⟨j, hj, hsl, hr_12⟩ := hp_12
  have hj20 : j < 20 := Nat.lt_of_lt_of_le hj ok.2.1
  rw [hr_12]
  replace hw : WH G s (stW G (K 0) S ++ (dmO G K F ++ X)) H locs := hw
  refine r_vi C hw (k7_get hF (strow_6 G (K 0) S (dmO G K F ++ X)) (by decide) (strow_e G (K 0) S (dmO G K F ++ X) 6) (nI j)) ml_X11_134 yf_X7_get 15 rfl rfl (As := [.int (nI j)]) rfl rfl ⟨Nat.le_of_ble_eq_true rfl, Nat.le_of_ble_eq_true rfl⟩ ⟨Nat.le_of_ble_eq_true rfl, Nat.le_of_ble_eq_true rfl⟩ hl.1 (Nat.le_of_ble_eq_true rfl) dX11_quantityOf_15 (fun r_15 _ H locs hp_15 hw => ?_)
  obtain rfl : r_15 = ((S.2.1 6) j) := by rw [hp_15]; exact rget_nI (by omega) (by decide)
  replace hw : WH G s (stW G (K 0) S ++ (dmO G K F ++ X)) H locs := hw
  refine vx_ret ?_
  exact r_iret C hw rfl rfl () (⟨j, hj, hsl, rfl⟩) rfl (Nat.le_of_ble_eq_true rfl) (Nat.le_of_ble_eq_true rfl) dX11_quantityOf_18

set_option maxHeartbeats 4000000 in
set_option maxRecDepth 100000 in
theorem x11_isBuying {l : Launch} {G : Gx} (hF : SF l G) {K : Nat → Nat → Nat} {S : SV} {F : Nat → Int32} {X : va_W} (ok : okS S) (x : Int32) : XI l G yX11_isBuying cX11_isBuying 2 .boolean 7 1 6 [.ref (K 7 0), .int x] (stW G (K 0) S ++ (dmO G K F ++ X)) (fun r _ => ∃ j, j < nO S ∧ slotF S x (nO S) = some j ∧ r = bI (buyS S j)) (fun _ : Unit => stW G (K 0) S ++ (dmO G K F ++ X)) (fun k => k = 5 ∧ slotF S x (nO S) = none) (fun _ => stW G (K 0) S ++ (dmO G K F ++ X)) := by
  refine mx_of hF (by decide) (Nat.le_of_ble_eq_true rfl) ?_
  intro p e s m below meth c C hnt ls hl H locs hw
  have hl : lv_has ls 2 [(0, .ref (K 7 0)), (1, .int x)] := hl
  refine lv_aload_n C.1 C.2.1 dX11_isBuying_0 rfl (lv_at hl 0 rfl) ?_
  refine r_get C hw 19 rfl rfl in_X11 0 (by decide) fl_X11_10 rfl (v := .ref (K 0 0)) rfl dX11_isBuying_1 ?_
  refine r_get C hw 0 rfl rfl in_X9 1 (by decide) fl_X11_161 rfl (v := .ref (K 0 6)) rfl dX11_isBuying_4 ?_
  refine lv_aload_n C.1 C.2.1 dX11_isBuying_7 rfl (lv_at hl 0 rfl) ?_
  refine lv_iload_n C.1 C.2.1 dX11_isBuying_8 rfl (lv_at hl 1 rfl) ?_
  refine x_vi C hw (x11_requireSlot hF ok x (K := K) (F := F) (S := S) (X := X)) ml_X11_178 yf_X11_requireSlot 19 rfl rfl (As := [.int x]) rfl rfl ⟨(Nat.le_of_ble_eq_true rfl), (Nat.le_of_ble_eq_true rfl)⟩ ⟨(Nat.le_of_ble_eq_true rfl), (Nat.le_of_ble_eq_true rfl)⟩ hl.1 (Nat.le_of_ble_eq_true rfl) dX11_isBuying_9 hnt (fun k hk => ⟨hk, rfl⟩) (Nat.le_of_ble_eq_true rfl) (Nat.le_of_ble_eq_true rfl) (fun r_9 u_9 H locs hp_9 hw => ?_)
  obtain ⟨j, hj, hsl, hr_9⟩ := hp_9
  have hj20 : j < 20 := Nat.lt_of_lt_of_le hj ok.2.1
  rw [hr_9]
  replace hw : WH G s (stW G (K 0) S ++ (dmO G K F ++ X)) H locs := hw
  refine r_vi C hw (k1_buys hF (a := (K 0)) (S := S) (X := (dmO G K F ++ X)) hj20) ml_X11_181 yf_X1_buys 6 rfl rfl (As := [.int (nI j)]) rfl rfl ⟨(Nat.le_of_ble_eq_true rfl), (Nat.le_of_ble_eq_true rfl)⟩ ⟨(Nat.le_of_ble_eq_true rfl), (Nat.le_of_ble_eq_true rfl)⟩ hl.1 (Nat.le_of_ble_eq_true rfl) dX11_isBuying_12 (fun r_12 _ H locs hp_12 hw => ?_)
  obtain rfl : r_12 = bI (buyS S j) := hp_12
  replace hw : WH G s (stW G (K 0) S ++ (dmO G K F ++ X)) H locs := hw
  refine vx_ret ?_
  exact r_iret C hw rfl (bI_nar _) () (⟨j, hj, hsl, rfl⟩) rfl (Nat.le_of_ble_eq_true rfl) (Nat.le_of_ble_eq_true rfl) dX11_isBuying_15

set_option maxHeartbeats 4000000 in
set_option maxRecDepth 100000 in
theorem x11_minutesLeft {l : Launch} {G : Gx} (hF : SF l G) {K : Nat → Nat → Nat} {S : SV} {F : Nat → Int32} {X : va_W} (ok : okS S) (x : Int32) : XI l G yX11_minutesLeft cX11_minutesLeft 3 .int 7 2 12 [.ref (K 7 0), .int x] (stW G (K 0) S ++ (dmO G K F ++ X)) (fun r _ => ∃ j, j < nO S ∧ slotF S x (nO S) = some j ∧ r = S.2.1 7 j ∧ r ≠ 0) (fun _ : Unit => stW G (K 0) S ++ (dmO G K F ++ X)) (fun k => (k = 5 ∧ slotF S x (nO S) = none) ∨ (k = 3 ∧ ∃ j, slotF S x (nO S) = some j ∧ S.2.1 7 j = 0)) (fun _ => stW G (K 0) S ++ (dmO G K F ++ X)) := by
  refine mx_of hF (by decide) (Nat.le_of_ble_eq_true rfl) ?_
  intro p e s m below meth c C hnt ls hl H locs hw
  have hl : lv_has ls 3 [(0, .ref (K 7 0)), (1, .int x)] := hl
  refine lv_aload_n C.1 C.2.1 dX11_minutesLeft_0 rfl (lv_at hl 0 rfl) ?_
  refine r_get C hw 19 rfl rfl in_X11 0 (by decide) fl_X11_10 rfl (v := .ref (K 0 0)) rfl dX11_minutesLeft_1 ?_
  refine r_get C hw 0 rfl rfl in_X9 1 (by decide) fl_X11_161 rfl (v := .ref (K 0 6)) rfl dX11_minutesLeft_4 ?_
  refine r_get C hw 6 rfl rfl in_X1 5 (by decide) fl_X11_191 rfl (v := .ref (K 0 17)) rfl dX11_minutesLeft_7 ?_
  refine lv_aload_n C.1 C.2.1 dX11_minutesLeft_10 rfl (lv_at hl 0 rfl) ?_
  refine lv_iload_n C.1 C.2.1 dX11_minutesLeft_11 rfl (lv_at hl 1 rfl) ?_
  refine x_vi C hw (x11_requireSlot hF ok x (K := K) (F := F) (S := S) (X := X)) ml_X11_178 yf_X11_requireSlot 19 rfl rfl (As := [.int x]) rfl rfl ⟨(Nat.le_of_ble_eq_true rfl), (Nat.le_of_ble_eq_true rfl)⟩ ⟨(Nat.le_of_ble_eq_true rfl), (Nat.le_of_ble_eq_true rfl)⟩ hl.1 (Nat.le_of_ble_eq_true rfl) dX11_minutesLeft_12 hnt (fun k hk => ⟨Or.inl hk, rfl⟩) (Nat.le_of_ble_eq_true rfl) (Nat.le_of_ble_eq_true rfl) (fun r_12 u_12 H locs hp_12 hw => ?_)
  obtain ⟨j, hj, hsl, hr_12⟩ := hp_12
  have hj20 : j < 20 := Nat.lt_of_lt_of_le hj ok.2.1
  rw [hr_12]
  replace hw : WH G s (stW G (K 0) S ++ (dmO G K F ++ X)) H locs := hw
  refine r_vi C hw (k7_get hF (strow_7 G (K 0) S (dmO G K F ++ X)) (by decide) (strow_e G (K 0) S (dmO G K F ++ X) 7) (nI j)) ml_X11_134 yf_X7_get 17 rfl rfl (As := [.int (nI j)]) rfl rfl ⟨Nat.le_of_ble_eq_true rfl, Nat.le_of_ble_eq_true rfl⟩ ⟨Nat.le_of_ble_eq_true rfl, Nat.le_of_ble_eq_true rfl⟩ hl.1 (Nat.le_of_ble_eq_true rfl) dX11_minutesLeft_15 (fun r_15 _ H locs hp_15 hw => ?_)
  obtain rfl : r_15 = ((S.2.1 7) j) := by rw [hp_15]; exact rget_nI (by omega) (by decide)
  replace hw : WH G s (stW G (K 0) S ++ (dmO G K F ++ X)) H locs := hw
  refine lv_istore_n (lv' := [(2, .int ((S.2.1 7) j)), (0, .ref (K 7 0)), (1, .int x)]) C.1 C.2.1 dX11_minutesLeft_18 rfl hl (by decide) rfl (fun ls hl => ?_)
  refine lv_iload_n C.1 C.2.1 dX11_minutesLeft_19 rfl (lv_at hl 0 rfl) ?_
  refine lv_if_ne (tgt := 33) C.1 C.2.1 dX11_minutesLeft_20 (by decide) (fun c_20 => ?_) (fun c_20 => ?_)
  · refine lv_iload_n C.1 C.2.1 dX11_minutesLeft_33 rfl (lv_at hl 0 rfl) ?_
    refine vx_ret ?_
    exact r_iret C hw rfl rfl () (⟨j, hj, hsl, rfl, c_20⟩) rfl (Nat.le_of_ble_eq_true rfl) (Nat.le_of_ble_eq_true rfl) dX11_minutesLeft_34
  · exact x_thr3 C hw (sr_196 hF) (Or.inr ⟨rfl, j, hsl, c_20⟩) rfl hnt hl.1 dX11_minutesLeft_23 dX11_minutesLeft_26 dX11_minutesLeft_27 dX11_minutesLeft_29 dX11_minutesLeft_32 (Nat.le_of_ble_eq_true rfl) (Nat.le_of_ble_eq_true rfl) (Nat.le_of_ble_eq_true rfl) (Nat.le_of_ble_eq_true rfl) (Nat.le_of_ble_eq_true rfl) (Nat.le_of_ble_eq_true rfl)

set_option maxHeartbeats 4000000 in
set_option maxRecDepth 100000 in
theorem x11_bestBuy {l : Launch} {G : Gx} (hF : SF l G) {K : Nat → Nat → Nat} {S : SV} {F : Nat → Int32} {X : va_W} (ok : okS S) : XI l G yX11_bestBuy cX11_bestBuy 1 .int 7 1 6 [.ref (K 7 0)] (stW G (K 0) S ++ (dmO G K F ++ X)) (fun r _ => ∃ j, j < nO S ∧ best S true (nO S) = some j ∧ r = S.2.1 2 j) (fun _ : Unit => stW G (K 0) S ++ (dmO G K F ++ X)) (fun k => k = 5 ∧ best S true (nO S) = none) (fun _ => stW G (K 0) S ++ (dmO G K F ++ X)) := by
  refine mx_of hF (by decide) (Nat.le_of_ble_eq_true rfl) ?_
  intro p e s m below meth c C hnt ls hl H locs hw
  have hl : lv_has ls 1 [(0, .ref (K 7 0))] := hl
  refine lv_aload_n C.1 C.2.1 dX11_bestBuy_0 rfl (lv_at hl 0 rfl) ?_
  refine lv_iconst (v := 1) C.1 C.2.1 dX11_bestBuy_1 (by decide) ?_
  refine x_vi C hw (x11_bestOrder hF ok true (K := K) (F := F) (S := S) (X := X)) ml_X11_199 yf_X11_bestOrder 19 rfl rfl (As := [.int 1]) rfl rfl ⟨(Nat.le_of_ble_eq_true rfl), (Nat.le_of_ble_eq_true rfl)⟩ ⟨(Nat.le_of_ble_eq_true rfl), (Nat.le_of_ble_eq_true rfl)⟩ hl.1 (Nat.le_of_ble_eq_true rfl) dX11_bestBuy_2 hnt (fun k hk => ⟨hk, rfl⟩) (Nat.le_of_ble_eq_true rfl) (Nat.le_of_ble_eq_true rfl) (fun r_2 u_2 H locs hp_2 hw => ?_)
  replace hw : WH G s (stW G (K 0) S ++ (dmO G K F ++ X)) H locs := hw
  refine vx_ret ?_
  exact r_iret C hw rfl rfl () (hp_2) rfl (Nat.le_of_ble_eq_true rfl) (Nat.le_of_ble_eq_true rfl) dX11_bestBuy_5

set_option maxHeartbeats 4000000 in
set_option maxRecDepth 100000 in
theorem x11_bestSell {l : Launch} {G : Gx} (hF : SF l G) {K : Nat → Nat → Nat} {S : SV} {F : Nat → Int32} {X : va_W} (ok : okS S) : XI l G yX11_bestSell cX11_bestSell 1 .int 7 1 6 [.ref (K 7 0)] (stW G (K 0) S ++ (dmO G K F ++ X)) (fun r _ => ∃ j, j < nO S ∧ best S false (nO S) = some j ∧ r = S.2.1 2 j) (fun _ : Unit => stW G (K 0) S ++ (dmO G K F ++ X)) (fun k => k = 5 ∧ best S false (nO S) = none) (fun _ => stW G (K 0) S ++ (dmO G K F ++ X)) := by
  refine mx_of hF (by decide) (Nat.le_of_ble_eq_true rfl) ?_
  intro p e s m below meth c C hnt ls hl H locs hw
  have hl : lv_has ls 1 [(0, .ref (K 7 0))] := hl
  refine lv_aload_n C.1 C.2.1 dX11_bestSell_0 rfl (lv_at hl 0 rfl) ?_
  refine lv_iconst (v := 0) C.1 C.2.1 dX11_bestSell_1 (by decide) ?_
  refine x_vi C hw (x11_bestOrder hF ok false (K := K) (F := F) (S := S) (X := X)) ml_X11_199 yf_X11_bestOrder 19 rfl rfl (As := [.int 0]) rfl rfl ⟨(Nat.le_of_ble_eq_true rfl), (Nat.le_of_ble_eq_true rfl)⟩ ⟨(Nat.le_of_ble_eq_true rfl), (Nat.le_of_ble_eq_true rfl)⟩ hl.1 (Nat.le_of_ble_eq_true rfl) dX11_bestSell_2 hnt (fun k hk => ⟨hk, rfl⟩) (Nat.le_of_ble_eq_true rfl) (Nat.le_of_ble_eq_true rfl) (fun r_2 u_2 H locs hp_2 hw => ?_)
  replace hw : WH G s (stW G (K 0) S ++ (dmO G K F ++ X)) H locs := hw
  refine vx_ret ?_
  exact r_iret C hw rfl rfl () (hp_2) rfl (Nat.le_of_ble_eq_true rfl) (Nat.le_of_ble_eq_true rfl) dX11_bestSell_5

set_option maxHeartbeats 4000000 in
set_option maxRecDepth 100000 in
theorem x11_spread {l : Launch} {G : Gx} (hF : SF l G) {K : Nat → Nat → Nat} {S : SV} {F : Nat → Int32} {X : va_W} (ok : okS S) : XI l G yX11_spread cX11_spread 1 .int 7 1 6 [.ref (K 7 0)] (stW G (K 0) S ++ (dmO G K F ++ X)) (fun r _ => r = sprS S (nO S) ∧ r ≠ 1000) (fun _ : Unit => stW G (K 0) S ++ (dmO G K F ++ X)) (fun k => k = 5 ∧ sprS S (nO S) = 1000) (fun _ => stW G (K 0) S ++ (dmO G K F ++ X)) := by
  refine mx_of hF (by decide) (Nat.le_of_ble_eq_true rfl) ?_
  intro p e s m below meth c C hnt ls hl H locs hw
  have hl : lv_has ls 1 [(0, .ref (K 7 0))] := hl
  refine lv_aload_n C.1 C.2.1 dX11_spread_0 rfl (lv_at hl 0 rfl) ?_
  refine r_get C hw 19 rfl rfl in_X11 0 (by decide) fl_X11_10 rfl (v := .ref (K 0 0)) rfl dX11_spread_1 ?_
  refine r_get C hw 0 rfl rfl in_X9 1 (by decide) fl_X11_161 rfl (v := .ref (K 0 6)) rfl dX11_spread_4 ?_
  refine r_vi C hw (k1_spreadOfBest hF (a := (K 0)) (S := S) (X := (dmO G K F ++ X)) ok.1 ok.2.1) ml_X11_203 yf_X1_spreadOfBest 6 rfl rfl (As := []) rfl rfl ⟨(Nat.le_of_ble_eq_true rfl), (Nat.le_of_ble_eq_true rfl)⟩ ⟨(Nat.le_of_ble_eq_true rfl), (Nat.le_of_ble_eq_true rfl)⟩ hl.1 (Nat.le_of_ble_eq_true rfl) dX11_spread_7 (fun r_7 _ H locs hp_7 hw => ?_)
  obtain rfl : r_7 = sprS S (nO S) := hp_7
  replace hw : WH G s (stW G (K 0) S ++ (dmO G K F ++ X)) H locs := hw
  refine x_si C hw (x11_requireSpread hF (sprS S (nO S)) (X := stW G (K 0) S ++ (dmO G K F ++ X))) ml_X11_206 yf_X11_requireSpread (As := [.int (sprS S (nO S))]) rfl rfl ⟨(Nat.le_of_ble_eq_true rfl), (Nat.le_of_ble_eq_true rfl)⟩ ⟨(Nat.le_of_ble_eq_true rfl), (Nat.le_of_ble_eq_true rfl)⟩ hl.1 (Nat.le_of_ble_eq_true rfl) dX11_spread_10 hnt (fun k hk => ⟨hk, rfl⟩) (Nat.le_of_ble_eq_true rfl) (Nat.le_of_ble_eq_true rfl) (fun r_10 u_10 H locs hp_10 hw => ?_)
  replace hw : WH G s (stW G (K 0) S ++ (dmO G K F ++ X)) H locs := hw
  refine vx_ret ?_
  exact r_iret C hw rfl rfl () (by obtain ⟨e1, e2⟩ := hp_10; exact ⟨e1, e1 ▸ e2⟩) rfl (Nat.le_of_ble_eq_true rfl) (Nat.le_of_ble_eq_true rfl) dX11_spread_13

set_option maxHeartbeats 4000000 in
set_option maxRecDepth 100000 in
theorem x11_buyingAt {l : Launch} {G : Gx} (hF : SF l G) {K : Nat → Nat → Nat} {S : SV} {F : Nat → Int32} {X : va_W} (ok : okS S) (x : Int32) : XI l G yX11_buyingAt cX11_buyingAt 2 .int 7 1 6 [.ref (K 7 0), .int x] (stW G (K 0) S ++ (dmO G K F ++ X)) (fun r _ => inR x 1 99 = true ∧ r = qAt S true x (nO S)) (fun _ : Unit => stW G (K 0) S ++ (dmO G K F ++ X)) (fun k => k = 2 ∧ inR x 1 99 = false) (fun _ => stW G (K 0) S ++ (dmO G K F ++ X)) := by
  refine mx_of hF (by decide) (Nat.le_of_ble_eq_true rfl) ?_
  intro p e s m below meth c C hnt ls hl H locs hw
  have hl : lv_has ls 2 [(0, .ref (K 7 0)), (1, .int x)] := hl
  refine lv_iload_n C.1 C.2.1 dX11_buyingAt_0 rfl (lv_at hl 1 rfl) ?_
  refine x_sv C hw (x11_requirePrice hF x (X := stW G (K 0) S ++ (dmO G K F ++ X))) ml_X11_216 yf_X11_requirePrice (As := [.int x]) rfl rfl ⟨(Nat.le_of_ble_eq_true rfl), (Nat.le_of_ble_eq_true rfl)⟩ ⟨(Nat.le_of_ble_eq_true rfl), (Nat.le_of_ble_eq_true rfl)⟩ hl.1 (Nat.le_of_ble_eq_true rfl) dX11_buyingAt_1 hnt (fun k hk => ⟨hk, rfl⟩) (Nat.le_of_ble_eq_true rfl) (Nat.le_of_ble_eq_true rfl) (fun u_1 H locs hp_1 hw => ?_)
  replace hw : WH G s (stW G (K 0) S ++ (dmO G K F ++ X)) H locs := hw
  refine lv_aload_n C.1 C.2.1 dX11_buyingAt_4 rfl (lv_at hl 0 rfl) ?_
  refine r_get C hw 19 rfl rfl in_X11 0 (by decide) fl_X11_10 rfl (v := .ref (K 0 0)) rfl dX11_buyingAt_5 ?_
  refine r_get C hw 0 rfl rfl in_X9 1 (by decide) fl_X11_161 rfl (v := .ref (K 0 6)) rfl dX11_buyingAt_8 ?_
  refine lv_iconst (v := 1) C.1 C.2.1 dX11_buyingAt_11 (by decide) ?_
  refine lv_iload_n C.1 C.2.1 dX11_buyingAt_12 rfl (lv_at hl 1 rfl) ?_
  refine r_vi C hw (k1_quantityAt hF (a := (K 0)) (S := S) (X := (dmO G K F ++ X)) ok.1 ok.2.1 true x) ml_X11_219 yf_X1_quantityAt 6 rfl rfl (As := [.int 1, .int x]) rfl rfl ⟨(Nat.le_of_ble_eq_true rfl), (Nat.le_of_ble_eq_true rfl)⟩ ⟨(Nat.le_of_ble_eq_true rfl), (Nat.le_of_ble_eq_true rfl)⟩ hl.1 (Nat.le_of_ble_eq_true rfl) dX11_buyingAt_13 (fun r_13 _ H locs hp_13 hw => ?_)
  obtain rfl : r_13 = qAt S true x (nO S) := hp_13
  replace hw : WH G s (stW G (K 0) S ++ (dmO G K F ++ X)) H locs := hw
  refine vx_ret ?_
  exact r_iret C hw rfl rfl () (⟨hp_1, rfl⟩) rfl (Nat.le_of_ble_eq_true rfl) (Nat.le_of_ble_eq_true rfl) dX11_buyingAt_16

set_option maxHeartbeats 4000000 in
set_option maxRecDepth 100000 in
theorem x11_sellingAt {l : Launch} {G : Gx} (hF : SF l G) {K : Nat → Nat → Nat} {S : SV} {F : Nat → Int32} {X : va_W} (ok : okS S) (x : Int32) : XI l G yX11_sellingAt cX11_sellingAt 2 .int 7 1 6 [.ref (K 7 0), .int x] (stW G (K 0) S ++ (dmO G K F ++ X)) (fun r _ => inR x 1 99 = true ∧ r = qAt S false x (nO S)) (fun _ : Unit => stW G (K 0) S ++ (dmO G K F ++ X)) (fun k => k = 2 ∧ inR x 1 99 = false) (fun _ => stW G (K 0) S ++ (dmO G K F ++ X)) := by
  refine mx_of hF (by decide) (Nat.le_of_ble_eq_true rfl) ?_
  intro p e s m below meth c C hnt ls hl H locs hw
  have hl : lv_has ls 2 [(0, .ref (K 7 0)), (1, .int x)] := hl
  refine lv_iload_n C.1 C.2.1 dX11_sellingAt_0 rfl (lv_at hl 1 rfl) ?_
  refine x_sv C hw (x11_requirePrice hF x (X := stW G (K 0) S ++ (dmO G K F ++ X))) ml_X11_216 yf_X11_requirePrice (As := [.int x]) rfl rfl ⟨(Nat.le_of_ble_eq_true rfl), (Nat.le_of_ble_eq_true rfl)⟩ ⟨(Nat.le_of_ble_eq_true rfl), (Nat.le_of_ble_eq_true rfl)⟩ hl.1 (Nat.le_of_ble_eq_true rfl) dX11_sellingAt_1 hnt (fun k hk => ⟨hk, rfl⟩) (Nat.le_of_ble_eq_true rfl) (Nat.le_of_ble_eq_true rfl) (fun u_1 H locs hp_1 hw => ?_)
  replace hw : WH G s (stW G (K 0) S ++ (dmO G K F ++ X)) H locs := hw
  refine lv_aload_n C.1 C.2.1 dX11_sellingAt_4 rfl (lv_at hl 0 rfl) ?_
  refine r_get C hw 19 rfl rfl in_X11 0 (by decide) fl_X11_10 rfl (v := .ref (K 0 0)) rfl dX11_sellingAt_5 ?_
  refine r_get C hw 0 rfl rfl in_X9 1 (by decide) fl_X11_161 rfl (v := .ref (K 0 6)) rfl dX11_sellingAt_8 ?_
  refine lv_iconst (v := 0) C.1 C.2.1 dX11_sellingAt_11 (by decide) ?_
  refine lv_iload_n C.1 C.2.1 dX11_sellingAt_12 rfl (lv_at hl 1 rfl) ?_
  refine r_vi C hw (k1_quantityAt hF (a := (K 0)) (S := S) (X := (dmO G K F ++ X)) ok.1 ok.2.1 false x) ml_X11_219 yf_X1_quantityAt 6 rfl rfl (As := [.int 0, .int x]) rfl rfl ⟨(Nat.le_of_ble_eq_true rfl), (Nat.le_of_ble_eq_true rfl)⟩ ⟨(Nat.le_of_ble_eq_true rfl), (Nat.le_of_ble_eq_true rfl)⟩ hl.1 (Nat.le_of_ble_eq_true rfl) dX11_sellingAt_13 (fun r_13 _ H locs hp_13 hw => ?_)
  obtain rfl : r_13 = qAt S false x (nO S) := hp_13
  replace hw : WH G s (stW G (K 0) S ++ (dmO G K F ++ X)) H locs := hw
  refine vx_ret ?_
  exact r_iret C hw rfl rfl () (⟨hp_1, rfl⟩) rfl (Nat.le_of_ble_eq_true rfl) (Nat.le_of_ble_eq_true rfl) dX11_sellingAt_16

set_option maxHeartbeats 4000000 in
set_option maxRecDepth 100000 in
theorem x11_volumeAt {l : Launch} {G : Gx} (hF : SF l G) {K : Nat → Nat → Nat} {S : SV} {F : Nat → Int32} {X : va_W} (ok : okS S) (x : Int32) : XI l G yX11_volumeAt cX11_volumeAt 2 .int 7 1 6 [.ref (K 7 0), .int x] (stW G (K 0) S ++ (dmO G K F ++ X)) (fun r _ => inR x 1 99 = true ∧ r = mmin (dmd S x (nO S)) (sup S x (nO S))) (fun _ : Unit => stW G (K 0) S ++ (dmO G K F ++ X)) (fun k => k = 2 ∧ inR x 1 99 = false) (fun _ => stW G (K 0) S ++ (dmO G K F ++ X)) := by
  refine mx_of hF (by decide) (Nat.le_of_ble_eq_true rfl) ?_
  intro p e s m below meth c C hnt ls hl H locs hw
  have hl : lv_has ls 2 [(0, .ref (K 7 0)), (1, .int x)] := hl
  refine lv_iload_n C.1 C.2.1 dX11_volumeAt_0 rfl (lv_at hl 1 rfl) ?_
  refine x_sv C hw (x11_requirePrice hF x (X := stW G (K 0) S ++ (dmO G K F ++ X))) ml_X11_216 yf_X11_requirePrice (As := [.int x]) rfl rfl ⟨(Nat.le_of_ble_eq_true rfl), (Nat.le_of_ble_eq_true rfl)⟩ ⟨(Nat.le_of_ble_eq_true rfl), (Nat.le_of_ble_eq_true rfl)⟩ hl.1 (Nat.le_of_ble_eq_true rfl) dX11_volumeAt_1 hnt (fun k hk => ⟨hk, rfl⟩) (Nat.le_of_ble_eq_true rfl) (Nat.le_of_ble_eq_true rfl) (fun u_1 H locs hp_1 hw => ?_)
  replace hw : WH G s (stW G (K 0) S ++ (dmO G K F ++ X)) H locs := hw
  refine lv_aload_n C.1 C.2.1 dX11_volumeAt_4 rfl (lv_at hl 0 rfl) ?_
  refine r_get C hw 19 rfl rfl in_X11 0 (by decide) fl_X11_10 rfl (v := .ref (K 0 0)) rfl dX11_volumeAt_5 ?_
  refine r_get C hw 0 rfl rfl in_X9 1 (by decide) fl_X11_161 rfl (v := .ref (K 0 6)) rfl dX11_volumeAt_8 ?_
  refine lv_iload_n C.1 C.2.1 dX11_volumeAt_11 rfl (lv_at hl 1 rfl) ?_
  refine r_vi C hw (k1_volume hF (a := (K 0)) (S := S) (X := (dmO G K F ++ X)) ok.1 ok.2.1 x) ml_X11_260 yf_X1_volume 6 rfl rfl (As := [.int x]) rfl rfl ⟨(Nat.le_of_ble_eq_true rfl), (Nat.le_of_ble_eq_true rfl)⟩ ⟨(Nat.le_of_ble_eq_true rfl), (Nat.le_of_ble_eq_true rfl)⟩ hl.1 (Nat.le_of_ble_eq_true rfl) dX11_volumeAt_12 (fun r_12 _ H locs hp_12 hw => ?_)
  obtain rfl : r_12 = mmin (dmd S x (nO S)) (sup S x (nO S)) := hp_12
  replace hw : WH G s (stW G (K 0) S ++ (dmO G K F ++ X)) H locs := hw
  refine vx_ret ?_
  exact r_iret C hw rfl rfl () (⟨hp_1, rfl⟩) rfl (Nat.le_of_ble_eq_true rfl) (Nat.le_of_ble_eq_true rfl) dX11_volumeAt_15

set_option maxHeartbeats 4000000 in
set_option maxRecDepth 100000 in
theorem x11_lastPrice {l : Launch} {G : Gx} (hF : SF l G) {K : Nat → Nat → Nat} {S : SV} {F : Nat → Int32} {X : va_W} : XI l G yX11_lastPrice cX11_lastPrice 1 .int 6 1 6 [.ref (K 7 0)] (stW G (K 0) S ++ (dmO G K F ++ X)) (fun r _ => r = S.1 5 ∧ S.1 6 ≠ 0) (fun _ : Unit => stW G (K 0) S ++ (dmO G K F ++ X)) (fun k => k = 5 ∧ S.1 6 = 0) (fun _ => stW G (K 0) S ++ (dmO G K F ++ X)) := by
  refine mx_of hF (by decide) (Nat.le_of_ble_eq_true rfl) ?_
  intro p e s m below meth c C hnt ls hl H locs hw
  have hl : lv_has ls 1 [(0, .ref (K 7 0))] := hl
  refine lv_aload_n C.1 C.2.1 dX11_lastPrice_0 rfl (lv_at hl 0 rfl) ?_
  refine r_get C hw 19 rfl rfl in_X11 0 (by decide) fl_X11_10 rfl (v := .ref (K 0 0)) rfl dX11_lastPrice_1 ?_
  refine r_get C hw 0 rfl rfl in_X9 6 (by decide) fl_X11_223 rfl (v := .int (S.1 6)) rfl dX11_lastPrice_4 ?_
  refine lv_if_ne (tgt := 20) C.1 C.2.1 dX11_lastPrice_7 (by decide) (fun c_7 => ?_) (fun c_7 => ?_)
  · refine lv_aload_n C.1 C.2.1 dX11_lastPrice_20 rfl (lv_at hl 0 rfl) ?_
    refine r_get C hw 19 rfl rfl in_X11 0 (by decide) fl_X11_10 rfl (v := .ref (K 0 0)) rfl dX11_lastPrice_21 ?_
    refine r_get C hw 0 rfl rfl in_X9 5 (by decide) fl_X11_228 rfl (v := .int (S.1 5)) rfl dX11_lastPrice_24 ?_
    refine vx_ret ?_
    exact r_iret C hw rfl rfl () (⟨rfl, c_7⟩) rfl (Nat.le_of_ble_eq_true rfl) (Nat.le_of_ble_eq_true rfl) dX11_lastPrice_27
  · exact x_thr5 C hw (sr_226 hF) (⟨rfl, c_7⟩) rfl hnt hl.1 dX11_lastPrice_10 dX11_lastPrice_13 dX11_lastPrice_14 dX11_lastPrice_16 dX11_lastPrice_19 (Nat.le_of_ble_eq_true rfl) (Nat.le_of_ble_eq_true rfl) (Nat.le_of_ble_eq_true rfl) (Nat.le_of_ble_eq_true rfl) (Nat.le_of_ble_eq_true rfl) (Nat.le_of_ble_eq_true rfl)

