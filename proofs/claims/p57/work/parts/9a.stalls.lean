/-! The law: stalls -/
theorem q_fqt {f : Nat → Int32} {i k : Nat} {v1 : Int32} (h1 : v1 = bI (decide (oF f k 1 = nI i))) : (v1 = 0 → 0 = if fqC f i true k = true then fqV f true k else 0) ∧ (bI (byF f k) = 0 → 0 = if fqC f i true k = true then fqV f true k else 0) ∧ (¬ v1 = 0 → ¬ bI (byF f k) = 0 → oF f k 3 * oF f k 4 = if fqC f i true k = true then fqV f true k else 0) := by
  unfold fqC fqV
  rw [h1]
  cases decide (oF f k 1 = nI i) <;> cases byF f k
  · exact ⟨fun _ => rfl, fun _ => rfl, fun a => absurd rfl a⟩
  · exact ⟨fun _ => rfl, fun _ => rfl, fun a => absurd rfl a⟩
  · exact ⟨fun _ => rfl, fun _ => rfl, fun _ a => absurd rfl a⟩
  · exact ⟨fun a => absurd a (by decide), fun a => absurd a (by decide), fun _ _ => Int32.mul_comm _ _⟩
theorem q_fqf {f : Nat → Int32} {i k : Nat} {v1 : Int32} (h1 : v1 = bI (decide (oF f k 1 = nI i))) : (v1 = 0 → 0 = if fqC f i false k = true then fqV f false k else 0) ∧ (¬ bI (byF f k) = 0 → 0 = if fqC f i false k = true then fqV f false k else 0) ∧ (¬ v1 = 0 → bI (byF f k) = 0 → oF f k 4 = if fqC f i false k = true then fqV f false k else 0) := by
  unfold fqC fqV
  rw [h1]
  cases decide (oF f k 1 = nI i) <;> cases byF f k
  · exact ⟨fun _ => rfl, fun _ => rfl, fun a => absurd rfl a⟩
  · exact ⟨fun _ => rfl, fun _ => rfl, fun a => absurd rfl a⟩
  · exact ⟨fun a => absurd a (by decide), fun a => absurd rfl a, fun _ _ => (Int32.mul_one _).symm⟩
  · exact ⟨fun a => absurd a (by decide), fun _ => rfl, fun _ a => absurd a (by decide)⟩
theorem q_pred {i : Nat} (h : 0 < i) : nI i - 1 = nI (i - 1) := by
  have e : nI (i - 1) + 1 = nI i := by rw [nI_1]; congr 1; omega
  rw [← e, Int32.sub_eq_add_neg, Int32.add_assoc, show (1 : Int32) + -1 = 0 from by decide, Int32.add_zero]
/-- the one before in rank -/
theorem q_rk {B : Int} {f : Nat → Int32} (h : Iz B f) {i j0 j1 : Nat} (h0 : j0 < tF f) (h1 : j1 < tF f) (r0 : cN (ahN f j0) (tF f) = i - 1) (r1 : cN (ahN f j1) (tF f) = i) (hi : 0 < i) : ¬ sF f j0 0 - sF f j1 0 < 0 ∧ (sF f j0 0 - sF f j1 0 = 0 → nI j0 ≤ nI j1) := by
  have h6 := h.1.1.2.2.2.1
  have a := q_ah (f := f) h0 h1 (by omega)
  have b0 := h.st h0
  have b1 := h.st h1
  have d : (sF f j0 0 - sF f j1 0).toInt = (sF f j0 0).toInt - (sF f j1 0).toInt := i_sub (by omega) (by omega)
  rw [i_l, i_0, d, nI_leI (by omega) (by omega)]
  refine ⟨by omega, fun e => ?_⟩
  have e := congrArg Int32.toInt e
  rw [d, i_0] at e
  omega
theorem q_nost {f : Nat → Int32} (hf : okF f) {v z : Int32} : (if isF f (nI (tF f)) = true then v else z) = z ∧ (if isF f (-1) = true then v else z) = z := ⟨if_neg (by rw [(q_noF hf).1]; decide), if_neg (by rw [(q_noF hf).2]; decide)⟩

set_option maxHeartbeats 4000000 in
set_option maxRecDepth 100000 in
theorem k_stalls {l : Launch} {G : Gx} (hF : SF l G) {c9 : Int} {D : CD} {U : MV_} (h : Sm c9 D U) {K r : Nat → Nat → Nat} {X : va_W} : MI l G yL_stalls cL_stalls 10 .boolean 12 1800 11000 [.ref (K 7 0)] (cW G K r D X) (fun v _ => v = 1) (fun _ : Unit => cW G K r D X) := by
  refine mt_of hF (by decide) (Nat.le_of_ble_eq_true rfl) ?_
  intro p e s m below meth c0 C hin ls hl H locs hw
  have hl : lv_has ls 10 [(0, .ref (K 7 0))] := hl
  have hok := h.okf
  have hbk := h.iz.1
  have h6 := hok.2.2.2.1
  have h20 := hok.2.1
  refine lv_aload_n C.1 C.2.1 dL_stalls_0 rfl (lv_at hl 0 rfl) ?_
  refine d_stallCount C hw h ml_L_222 ⟨(Nat.le_of_ble_eq_true rfl), (Nat.le_of_ble_eq_true rfl)⟩ ⟨by show _ ≤ 1800; omega, by show _ ≤ 11000; omega⟩ hl.1 (Nat.le_of_ble_eq_true rfl) dL_stalls_1 (fun H locs hw => ?_)
  refine lv_istore_n (lv' := [(1, .int (nI (tF (U.2 0)))), (0, .ref (K 7 0))]) C.1 C.2.1 dL_stalls_4 rfl hl (by decide) rfl (fun ls hl => ?_)
  refine lv_iconst (v := 0) C.1 C.2.1 dL_stalls_5 (by decide) ?_
  refine lv_istore_n (lv' := [(2, .int 0), (1, .int (nI (tF (U.2 0)))), (0, .ref (K 7 0))]) C.1 C.2.1 dL_stalls_6 rfl hl (by decide) rfl (fun ls hl => ?_)
  refine lv_iconst (v := 0) C.1 C.2.1 dL_stalls_7 (by decide) ?_
  refine lv_istore_n (lv' := [(3, .int 0), (2, .int 0), (1, .int (nI (tF (U.2 0)))), (0, .ref (K 7 0))]) C.1 C.2.1 dL_stalls_8 rfl hl (by decide) rfl (fun ls hl => ?_)
  refine lv_iconst (v := 0) C.1 C.2.1 dL_stalls_9 (by decide) ?_
  refine lv_istore (lv' := [(4, .int 0), (3, .int 0), (2, .int 0), (1, .int (nI (tF (U.2 0)))), (0, .ref (K 7 0))]) C.1 C.2.1 dL_stalls_10 hl (by decide) rfl (fun ls hl => ?_)
  refine W.widen (k := 260 * 0) (n := 1600 * 0) (by omega) (by omega) ?_
  refine w_loop (σ := Nat) G (fun u i => i ≤ tF (U.2 0) ∧ i + u = tF (U.2 0) + 1) (fun i => cW G K r D X) (fun i => 260 * i) (fun i => 1600 * i) (fun i => [(4, .int (nI i)), (3, .int (toR (U.2 0) 1 i)), (2, .int (toR (U.2 0) 0 i)), (1, .int (nI (tF (U.2 0)))), (0, .ref (K 7 0))]) 10 ?_ ?_ (tF (U.2 0) + 1) 0 (by omega) hw (lv_sub hl [0, 1, 2, 3, 4] rfl)
  · rintro n12 i hi9 ih12 H locs hw ls hl
    replace hw : WH G s (cW G K r D X) H locs := hw
    replace hl : lv_has ls 10 [(4, .int (nI i)), (3, .int (toR (U.2 0) 1 i)), (2, .int (toR (U.2 0) 0 i)), (1, .int (nI (tF (U.2 0)))), (0, .ref (K 7 0))] := hl
    show W p l e _ s m _ below meth c0 H locs (260 * i) (1600 * i) _ (F0 m 12 ls [])
    refine lv_iload C.1 C.2.1 dL_stalls_12 (lv_at hl 0 rfl) ?_
    refine lv_iload_n C.1 C.2.1 dL_stalls_14 rfl (lv_at hl 3 rfl) ?_
    refine lv_icmp_ge (tgt := 266) C.1 C.2.1 dL_stalls_15 (by decide) (fun c_15 => ?_) (fun c_15 => ?_)
    · obtain rfl : i = tF (U.2 0) := by rw [nI_leI (by omega) (by omega)] at c_15; omega
      refine lv_aload_n C.1 C.2.1 dL_stalls_266 rfl (lv_at hl 4 rfl) ?_
      refine d_totalMoney C hw h ml_L_243 ⟨(Nat.le_of_ble_eq_true rfl), (Nat.le_of_ble_eq_true rfl)⟩ ⟨by show _ ≤ 1800; omega, by show _ ≤ 11000; omega⟩ hl.1 (Nat.le_of_ble_eq_true rfl) dL_stalls_267 (fun H locs hw => ?_)
      refine lv_iload_n C.1 C.2.1 dL_stalls_270 rfl (lv_at hl 2 rfl) ?_
      refine lv_icmp_ne (tgt := 346) C.1 C.2.1 dL_stalls_271 (by decide) (fun c_271 => absurd (rfl) c_271) (fun c_271 => ?_)
      refine lv_aload_n C.1 C.2.1 dL_stalls_274 rfl (lv_at hl 4 rfl) ?_
      refine d_totalDrops C hw h ml_L_246 ⟨(Nat.le_of_ble_eq_true rfl), (Nat.le_of_ble_eq_true rfl)⟩ ⟨by show _ ≤ 1800; omega, by show _ ≤ 11000; omega⟩ hl.1 (Nat.le_of_ble_eq_true rfl) dL_stalls_275 (fun H locs hw => ?_)
      refine lv_iload_n C.1 C.2.1 dL_stalls_278 rfl (lv_at hl 1 rfl) ?_
      refine lv_icmp_ne (tgt := 346) C.1 C.2.1 dL_stalls_279 (by decide) (fun c_279 => absurd (rfl) c_279) (fun c_279 => ?_)
      refine lv_aload_n C.1 C.2.1 dL_stalls_282 rfl (lv_at hl 4 rfl) ?_
      refine lv_iload_n C.1 C.2.1 dL_stalls_283 rfl (lv_at hl 3 rfl) ?_
      refine r_hsi C hw (a_byMoney hF h (nI (tF (U.2 0))) (K := K) (r := r) (X := X)) ml_L_234 yf_L_byMoney (As := [.ref (K 7 0), .int (nI (tF (U.2 0)))]) rfl rfl ⟨(Nat.le_of_ble_eq_true rfl), (Nat.le_of_ble_eq_true rfl)⟩ ⟨by show _ ≤ 1800; omega, by show _ ≤ 11000; omega⟩ hl.1 (Nat.le_of_ble_eq_true rfl) dL_stalls_284 (fun r_284 _ H locs hp_284 hw => ?_)
      obtain rfl : r_284 = (-13) := hp_284.trans ((q_nost hok).1)
      replace hw : WH G s (cW G K r D X) H locs := hw
      refine lv_bipush (v := -13) C.1 C.2.1 dL_stalls_287 (by decide) ?_
      refine lv_icmp_ne (tgt := 346) C.1 C.2.1 dL_stalls_289 (by decide) (fun c_289 => absurd (rfl) c_289) (fun c_289 => ?_)
      refine lv_aload_n C.1 C.2.1 dL_stalls_292 rfl (lv_at hl 4 rfl) ?_
      refine lv_iconst (v := -1) C.1 C.2.1 dL_stalls_293 (by decide) ?_
      refine r_hsi C hw (a_byMoney hF h (-1) (K := K) (r := r) (X := X)) ml_L_234 yf_L_byMoney (As := [.ref (K 7 0), .int (-1)]) rfl rfl ⟨(Nat.le_of_ble_eq_true rfl), (Nat.le_of_ble_eq_true rfl)⟩ ⟨by show _ ≤ 1800; omega, by show _ ≤ 11000; omega⟩ hl.1 (Nat.le_of_ble_eq_true rfl) dL_stalls_294 (fun r_294 _ H locs hp_294 hw => ?_)
      obtain rfl : r_294 = (-13) := hp_294.trans ((q_nost hok).2)
      replace hw : WH G s (cW G K r D X) H locs := hw
      refine lv_bipush (v := -13) C.1 C.2.1 dL_stalls_297 (by decide) ?_
      refine lv_icmp_ne (tgt := 346) C.1 C.2.1 dL_stalls_299 (by decide) (fun c_299 => absurd (rfl) c_299) (fun c_299 => ?_)
      refine lv_aload_n C.1 C.2.1 dL_stalls_302 rfl (lv_at hl 4 rfl) ?_
      refine lv_iload_n C.1 C.2.1 dL_stalls_303 rfl (lv_at hl 3 rfl) ?_
      refine r_hsi C hw (a_money hF h (nI (tF (U.2 0))) (K := K) (r := r) (X := X)) ml_L_225 yf_L_money (As := [.ref (K 7 0), .int (nI (tF (U.2 0)))]) rfl rfl ⟨(Nat.le_of_ble_eq_true rfl), (Nat.le_of_ble_eq_true rfl)⟩ ⟨by show _ ≤ 1800; omega, by show _ ≤ 11000; omega⟩ hl.1 (Nat.le_of_ble_eq_true rfl) dL_stalls_304 (fun r_304 _ H locs hp_304 hw => ?_)
      obtain rfl : r_304 = (-11) := hp_304.trans ((q_nost hok).1)
      replace hw : WH G s (cW G K r D X) H locs := hw
      refine lv_bipush (v := -11) C.1 C.2.1 dL_stalls_307 (by decide) ?_
      refine lv_icmp_ne (tgt := 346) C.1 C.2.1 dL_stalls_309 (by decide) (fun c_309 => absurd (rfl) c_309) (fun c_309 => ?_)
      refine lv_aload_n C.1 C.2.1 dL_stalls_312 rfl (lv_at hl 4 rfl) ?_
      refine lv_iload_n C.1 C.2.1 dL_stalls_313 rfl (lv_at hl 3 rfl) ?_
      refine r_hsi C hw (a_drops hF h (nI (tF (U.2 0))) (K := K) (r := r) (X := X)) ml_L_228 yf_L_drops (As := [.ref (K 7 0), .int (nI (tF (U.2 0)))]) rfl rfl ⟨(Nat.le_of_ble_eq_true rfl), (Nat.le_of_ble_eq_true rfl)⟩ ⟨by show _ ≤ 1800; omega, by show _ ≤ 11000; omega⟩ hl.1 (Nat.le_of_ble_eq_true rfl) dL_stalls_314 (fun r_314 _ H locs hp_314 hw => ?_)
      obtain rfl : r_314 = (-11) := hp_314.trans ((q_nost hok).1)
      replace hw : WH G s (cW G K r D X) H locs := hw
      refine lv_bipush (v := -11) C.1 C.2.1 dL_stalls_317 (by decide) ?_
      refine lv_icmp_ne (tgt := 346) C.1 C.2.1 dL_stalls_319 (by decide) (fun c_319 => absurd (rfl) c_319) (fun c_319 => ?_)
      refine lv_aload_n C.1 C.2.1 dL_stalls_322 rfl (lv_at hl 4 rfl) ?_
      refine lv_iload_n C.1 C.2.1 dL_stalls_323 rfl (lv_at hl 3 rfl) ?_
      refine r_hsi C hw (a_freeMoney hF h (nI (tF (U.2 0))) (K := K) (r := r) (X := X)) ml_L_237 yf_L_freeMoney (As := [.ref (K 7 0), .int (nI (tF (U.2 0)))]) rfl rfl ⟨(Nat.le_of_ble_eq_true rfl), (Nat.le_of_ble_eq_true rfl)⟩ ⟨by show _ ≤ 1800; omega, by show _ ≤ 11000; omega⟩ hl.1 (Nat.le_of_ble_eq_true rfl) dL_stalls_324 (fun r_324 _ H locs hp_324 hw => ?_)
      obtain rfl : r_324 = (-11) := hp_324.trans ((q_nost hok).1)
      replace hw : WH G s (cW G K r D X) H locs := hw
      refine lv_bipush (v := -11) C.1 C.2.1 dL_stalls_327 (by decide) ?_
      refine lv_icmp_ne (tgt := 346) C.1 C.2.1 dL_stalls_329 (by decide) (fun c_329 => absurd (rfl) c_329) (fun c_329 => ?_)
      refine lv_aload_n C.1 C.2.1 dL_stalls_332 rfl (lv_at hl 4 rfl) ?_
      refine lv_iconst (v := -1) C.1 C.2.1 dL_stalls_333 (by decide) ?_
      refine r_hsi C hw (a_freeDrops hF h (-1) (K := K) (r := r) (X := X)) ml_L_240 yf_L_freeDrops (As := [.ref (K 7 0), .int (-1)]) rfl rfl ⟨(Nat.le_of_ble_eq_true rfl), (Nat.le_of_ble_eq_true rfl)⟩ ⟨by show _ ≤ 1800; omega, by show _ ≤ 11000; omega⟩ hl.1 (Nat.le_of_ble_eq_true rfl) dL_stalls_334 (fun r_334 _ H locs hp_334 hw => ?_)
      obtain rfl : r_334 = (-11) := hp_334.trans ((q_nost hok).2)
      replace hw : WH G s (cW G K r D X) H locs := hw
      refine lv_bipush (v := -11) C.1 C.2.1 dL_stalls_337 (by decide) ?_
      refine lv_icmp_ne (tgt := 346) C.1 C.2.1 dL_stalls_339 (by decide) (fun c_339 => absurd (rfl) c_339) (fun c_339 => ?_)
      refine lv_iconst (v := 1) C.1 C.2.1 dL_stalls_342 (by decide) ?_
      refine lv_goto (tgt := 347) C.1 C.2.1 dL_stalls_343 (by decide) ?_
      exact r_iret C hw rfl rfl () (rfl) rfl (by show _ ≤ 1800; omega) (by show _ ≤ 11000; omega) dL_stalls_347
    · have hi : i < tF (U.2 0) := by rw [nI_leI (by omega) (by omega)] at c_15; omega
      refine lv_aload_n C.1 C.2.1 dL_stalls_18 rfl (lv_at hl 4 rfl) ?_
      refine lv_iload C.1 C.2.1 dL_stalls_19 (lv_at hl 0 rfl) ?_
      refine r_hsi C hw (a_money hF h (nI i) (K := K) (r := r) (X := X)) ml_L_225 yf_L_money (As := [.ref (K 7 0), .int (nI i)]) rfl rfl ⟨(Nat.le_of_ble_eq_true rfl), (Nat.le_of_ble_eq_true rfl)⟩ ⟨by show _ ≤ 1800; omega, by show _ ≤ 11000; omega⟩ hl.1 (Nat.le_of_ble_eq_true rfl) dL_stalls_21 (fun r_21 _ H locs hp_21 hw => ?_)
      obtain rfl : r_21 = sF (U.2 0) i 0 := hp_21.trans (q_st hok hi 0 _)
      replace hw : WH G s (cW G K r D X) H locs := hw
      refine lv_istore (lv' := [(5, .int (sF (U.2 0) i 0)), (4, .int (nI i)), (3, .int (toR (U.2 0) 1 i)), (2, .int (toR (U.2 0) 0 i)), (1, .int (nI (tF (U.2 0)))), (0, .ref (K 7 0))]) C.1 C.2.1 dL_stalls_24 hl (by decide) rfl (fun ls hl => ?_)
      refine lv_aload_n C.1 C.2.1 dL_stalls_26 rfl (lv_at hl 5 rfl) ?_
      refine lv_iload C.1 C.2.1 dL_stalls_27 (lv_at hl 1 rfl) ?_
      refine r_hsi C hw (a_drops hF h (nI i) (K := K) (r := r) (X := X)) ml_L_228 yf_L_drops (As := [.ref (K 7 0), .int (nI i)]) rfl rfl ⟨(Nat.le_of_ble_eq_true rfl), (Nat.le_of_ble_eq_true rfl)⟩ ⟨by show _ ≤ 1800; omega, by show _ ≤ 11000; omega⟩ hl.1 (Nat.le_of_ble_eq_true rfl) dL_stalls_29 (fun r_29 _ H locs hp_29 hw => ?_)
      obtain rfl : r_29 = sF (U.2 0) i 1 := hp_29.trans (q_st hok hi 1 _)
      replace hw : WH G s (cW G K r D X) H locs := hw
      refine lv_istore (lv' := [(6, .int (sF (U.2 0) i 1)), (5, .int (sF (U.2 0) i 0)), (4, .int (nI i)), (3, .int (toR (U.2 0) 1 i)), (2, .int (toR (U.2 0) 0 i)), (1, .int (nI (tF (U.2 0)))), (0, .ref (K 7 0))]) C.1 C.2.1 dL_stalls_32 hl (by decide) rfl (fun ls hl => ?_)
      refine lv_iload_n C.1 C.2.1 dL_stalls_34 rfl (lv_at hl 4 rfl) ?_
      refine lv_iload C.1 C.2.1 dL_stalls_35 (lv_at hl 1 rfl) ?_
      refine lv_iadd C.1 C.2.1 dL_stalls_37 ?_
      refine lv_istore_n (lv' := [(2, .int ((toR (U.2 0) 0 i) + (sF (U.2 0) i 0))), (6, .int (sF (U.2 0) i 1)), (5, .int (sF (U.2 0) i 0)), (4, .int (nI i)), (3, .int (toR (U.2 0) 1 i)), (1, .int (nI (tF (U.2 0)))), (0, .ref (K 7 0))]) C.1 C.2.1 dL_stalls_38 rfl hl (by decide) rfl (fun ls hl => ?_)
      refine lv_iload_n C.1 C.2.1 dL_stalls_39 rfl (lv_at hl 4 rfl) ?_
      refine lv_iload C.1 C.2.1 dL_stalls_40 (lv_at hl 1 rfl) ?_
      refine lv_iadd C.1 C.2.1 dL_stalls_42 ?_
      refine lv_istore_n (lv' := [(3, .int ((toR (U.2 0) 1 i) + (sF (U.2 0) i 1))), (2, .int ((toR (U.2 0) 0 i) + (sF (U.2 0) i 0))), (6, .int (sF (U.2 0) i 1)), (5, .int (sF (U.2 0) i 0)), (4, .int (nI i)), (1, .int (nI (tF (U.2 0)))), (0, .ref (K 7 0))]) C.1 C.2.1 dL_stalls_43 rfl hl (by decide) rfl (fun ls hl => ?_)
      refine lv_iconst (v := 0) C.1 C.2.1 dL_stalls_44 (by decide) ?_
      refine lv_istore (lv' := [(7, .int 0), (3, .int ((toR (U.2 0) 1 i) + (sF (U.2 0) i 1))), (2, .int ((toR (U.2 0) 0 i) + (sF (U.2 0) i 0))), (6, .int (sF (U.2 0) i 1)), (5, .int (sF (U.2 0) i 0)), (4, .int (nI i)), (1, .int (nI (tF (U.2 0)))), (0, .ref (K 7 0))]) C.1 C.2.1 dL_stalls_45 hl (by decide) rfl (fun ls hl => ?_)
      refine W.widen (k := 260 * i + 10 + 12 * 0) (n := 1600 * i + 60 + 72 * 0) (by omega) (by omega) ?_
      refine w_loop (σ := Nat) G (fun u k => k ≤ nF (U.2 0) ∧ k + u = nF (U.2 0) + 1) (fun k => cW G K r D X) (fun k => 260 * i + 10 + 12 * k) (fun k => 1600 * i + 60 + 72 * k) (fun k => [(7, .int (nI k)), (6, .int (fqR (U.2 0) i false k)), (5, .int (fqR (U.2 0) i true k)), (4, .int (nI i)), (3, .int (toR (U.2 0) 1 i + sF (U.2 0) i 1)), (2, .int (toR (U.2 0) 0 i + sF (U.2 0) i 0)), (1, .int (nI (tF (U.2 0)))), (0, .ref (K 7 0))]) 10 ?_ ?_ (nF (U.2 0) + 1) 0 (by omega) hw (lv_sub hl [0, 3, 4, 5, 1, 2, 6, 7] rfl)
      · rintro n47 k hk9 ih47 H locs hw ls hl
        replace hw : WH G s (cW G K r D X) H locs := hw
        replace hl : lv_has ls 10 [(7, .int (nI k)), (6, .int (fqR (U.2 0) i false k)), (5, .int (fqR (U.2 0) i true k)), (4, .int (nI i)), (3, .int (toR (U.2 0) 1 i + sF (U.2 0) i 1)), (2, .int (toR (U.2 0) 0 i + sF (U.2 0) i 0)), (1, .int (nI (tF (U.2 0)))), (0, .ref (K 7 0))] := hl
        show W p l e _ s m _ below meth c0 H locs (260 * i + 10 + 12 * k) (1600 * i + 60 + 72 * k) _ (F0 m 47 ls [])
        refine lv_iload C.1 C.2.1 dL_stalls_47 (lv_at hl 0 rfl) ?_
        refine lv_aload_n C.1 C.2.1 dL_stalls_49 rfl (lv_at hl 7 rfl) ?_
        refine d_orderCount C hw h ml_L_231 ⟨(Nat.le_of_ble_eq_true rfl), (Nat.le_of_ble_eq_true rfl)⟩ ⟨by show _ ≤ 1800; omega, by show _ ≤ 11000; omega⟩ hl.1 (Nat.le_of_ble_eq_true rfl) dL_stalls_50 (fun H locs hw => ?_)
        refine lv_icmp_ge (tgt := 153) C.1 C.2.1 dL_stalls_53 (by decide) (fun c_53 => ?_) (fun c_53 => ?_)
        · obtain rfl : k = nF (U.2 0) := by rw [nI_leI (by omega) (by omega)] at c_53; omega
          obtain ⟨j1, hj1, hr1, hb1⟩ := q_sb h.rl h.iz hi
          refine lv_aload_n C.1 C.2.1 dL_stalls_153 rfl (lv_at hl 7 rfl) ?_
          refine lv_iload C.1 C.2.1 dL_stalls_154 (lv_at hl 3 rfl) ?_
          refine r_hsi C hw (a_byMoney hF h (nI i) (K := K) (r := r) (X := X)) ml_L_234 yf_L_byMoney (As := [.ref (K 7 0), .int (nI i)]) rfl rfl ⟨(Nat.le_of_ble_eq_true rfl), (Nat.le_of_ble_eq_true rfl)⟩ ⟨by show _ ≤ 1800; omega, by show _ ≤ 11000; omega⟩ hl.1 (Nat.le_of_ble_eq_true rfl) dL_stalls_156 (fun r_156 _ H locs hp_156 hw => ?_)
          obtain rfl : r_156 = nI j1 := hp_156.trans (hb1 _)
          replace hw : WH G s (cW G K r D X) H locs := hw
          refine lv_istore (lv' := [(7, .int (nI j1)), (6, .int (fqR (U.2 0) i false (nF (U.2 0)))), (5, .int (fqR (U.2 0) i true (nF (U.2 0)))), (4, .int (nI i)), (3, .int (toR (U.2 0) 1 i + sF (U.2 0) i 1)), (2, .int (toR (U.2 0) 0 i + sF (U.2 0) i 0)), (1, .int (nI (tF (U.2 0)))), (0, .ref (K 7 0))]) C.1 C.2.1 dL_stalls_159 hl (by decide) rfl (fun ls hl => ?_)
          refine lv_iload C.1 C.2.1 dL_stalls_161 (lv_at hl 3 rfl) ?_
          refine lv_if_ne (tgt := 170) C.1 C.2.1 dL_stalls_163 (by decide) (fun c_163 => ?_) (fun c_163 => ?_)
          · have hi0 : 0 < i := Nat.pos_of_ne_zero (fun e9 => c_163 (by rw [e9]; rfl))
            obtain ⟨j0, hj0, hr0, hb0⟩ := q_sb h.rl h.iz (r := i - 1) (by omega)
            obtain ⟨rk1, rk2⟩ := q_rk h.iz hj0 hj1 hr0 hr1 hi0
            refine lv_aload_n C.1 C.2.1 dL_stalls_170 rfl (lv_at hl 7 rfl) ?_
            refine lv_iload C.1 C.2.1 dL_stalls_171 (lv_at hl 3 rfl) ?_
            refine lv_iconst (v := 1) C.1 C.2.1 dL_stalls_173 (by decide) ?_
            refine lv_isub C.1 C.2.1 dL_stalls_174 ?_
            refine r_toe (show _ = nI (i - 1) from q_pred hi0) ?_
            refine r_hsi C hw (a_byMoney hF h (nI (i - 1)) (K := K) (r := r) (X := X)) ml_L_234 yf_L_byMoney (As := [.ref (K 7 0), .int (nI (i - 1))]) rfl rfl ⟨(Nat.le_of_ble_eq_true rfl), (Nat.le_of_ble_eq_true rfl)⟩ ⟨by show _ ≤ 1800; omega, by show _ ≤ 11000; omega⟩ hl.1 (Nat.le_of_ble_eq_true rfl) dL_stalls_175 (fun r_175 _ H locs hp_175 hw => ?_)
            obtain rfl : r_175 = nI j0 := hp_175.trans (hb0 _)
            replace hw : WH G s (cW G K r D X) H locs := hw
            refine lv_istore (lv' := [(8, .int (nI j0)), (7, .int (nI j1)), (6, .int (fqR (U.2 0) i false (nF (U.2 0)))), (5, .int (fqR (U.2 0) i true (nF (U.2 0)))), (4, .int (nI i)), (3, .int (toR (U.2 0) 1 i + sF (U.2 0) i 1)), (2, .int (toR (U.2 0) 0 i + sF (U.2 0) i 0)), (1, .int (nI (tF (U.2 0)))), (0, .ref (K 7 0))]) C.1 C.2.1 dL_stalls_178 hl (by decide) rfl (fun ls hl => ?_)
            refine lv_iload C.1 C.2.1 dL_stalls_180 (lv_at hl 4 rfl) ?_
            refine lv_if_ne (tgt := 189) C.1 C.2.1 dL_stalls_182 (by decide) (fun c_182 => ?_) (fun c_182 => absurd c_182 (c_163))
            refine lv_aload_n C.1 C.2.1 dL_stalls_189 rfl (lv_at hl 8 rfl) ?_
            refine lv_iload C.1 C.2.1 dL_stalls_190 (lv_at hl 0 rfl) ?_
            refine r_hsi C hw (a_money hF h (nI j0) (K := K) (r := r) (X := X)) ml_L_225 yf_L_money (As := [.ref (K 7 0), .int (nI j0)]) rfl rfl ⟨(Nat.le_of_ble_eq_true rfl), (Nat.le_of_ble_eq_true rfl)⟩ ⟨by show _ ≤ 1800; omega, by show _ ≤ 11000; omega⟩ hl.1 (Nat.le_of_ble_eq_true rfl) dL_stalls_192 (fun r_192 _ H locs hp_192 hw => ?_)
            obtain rfl : r_192 = sF (U.2 0) j0 0 := hp_192.trans (q_st hok hj0 0 _)
            replace hw : WH G s (cW G K r D X) H locs := hw
            refine lv_aload_n C.1 C.2.1 dL_stalls_195 rfl (lv_at hl 8 rfl) ?_
            refine lv_iload C.1 C.2.1 dL_stalls_196 (lv_at hl 1 rfl) ?_
            refine r_hsi C hw (a_money hF h (nI j1) (K := K) (r := r) (X := X)) ml_L_225 yf_L_money (As := [.ref (K 7 0), .int (nI j1)]) rfl rfl ⟨(Nat.le_of_ble_eq_true rfl), (Nat.le_of_ble_eq_true rfl)⟩ ⟨by show _ ≤ 1800; omega, by show _ ≤ 11000; omega⟩ hl.1 (Nat.le_of_ble_eq_true rfl) dL_stalls_198 (fun r_198 _ H locs hp_198 hw => ?_)
            obtain rfl : r_198 = sF (U.2 0) j1 0 := hp_198.trans (q_st hok hj1 0 _)
            replace hw : WH G s (cW G K r D X) H locs := hw
            refine lv_isub C.1 C.2.1 dL_stalls_201 ?_
            refine lv_istore (lv' := [(9, .int ((sF (U.2 0) j0 0) - (sF (U.2 0) j1 0))), (8, .int (nI j0)), (7, .int (nI j1)), (6, .int (fqR (U.2 0) i false (nF (U.2 0)))), (5, .int (fqR (U.2 0) i true (nF (U.2 0)))), (4, .int (nI i)), (3, .int (toR (U.2 0) 1 i + sF (U.2 0) i 1)), (2, .int (toR (U.2 0) 0 i + sF (U.2 0) i 0)), (1, .int (nI (tF (U.2 0)))), (0, .ref (K 7 0))]) C.1 C.2.1 dL_stalls_202 hl (by decide) rfl (fun ls hl => ?_)
            refine lv_aload_n C.1 C.2.1 dL_stalls_204 rfl (lv_at hl 9 rfl) ?_
            refine lv_iload C.1 C.2.1 dL_stalls_205 (lv_at hl 5 rfl) ?_
            refine r_hsi C hw (a_freeMoney hF h (nI i) (K := K) (r := r) (X := X)) ml_L_237 yf_L_freeMoney (As := [.ref (K 7 0), .int (nI i)]) rfl rfl ⟨(Nat.le_of_ble_eq_true rfl), (Nat.le_of_ble_eq_true rfl)⟩ ⟨by show _ ≤ 1800; omega, by show _ ≤ 11000; omega⟩ hl.1 (Nat.le_of_ble_eq_true rfl) dL_stalls_207 (fun r_207 _ H locs hp_207 hw => ?_)
            obtain rfl : r_207 = fqR (U.2 0) i true (nF (U.2 0)) := hp_207.trans (q_fq hok hi true _)
            replace hw : WH G s (cW G K r D X) H locs := hw
            refine lv_iload C.1 C.2.1 dL_stalls_210 (lv_at hl 4 rfl) ?_
            refine lv_icmp_ne (tgt := 258) C.1 C.2.1 dL_stalls_212 (by decide) (fun c_212 => absurd (rfl) c_212) (fun c_212 => ?_)
            refine lv_aload_n C.1 C.2.1 dL_stalls_215 rfl (lv_at hl 9 rfl) ?_
            refine lv_iload C.1 C.2.1 dL_stalls_216 (lv_at hl 5 rfl) ?_
            refine r_hsi C hw (a_freeDrops hF h (nI i) (K := K) (r := r) (X := X)) ml_L_240 yf_L_freeDrops (As := [.ref (K 7 0), .int (nI i)]) rfl rfl ⟨(Nat.le_of_ble_eq_true rfl), (Nat.le_of_ble_eq_true rfl)⟩ ⟨by show _ ≤ 1800; omega, by show _ ≤ 11000; omega⟩ hl.1 (Nat.le_of_ble_eq_true rfl) dL_stalls_218 (fun r_218 _ H locs hp_218 hw => ?_)
            obtain rfl : r_218 = fqR (U.2 0) i false (nF (U.2 0)) := hp_218.trans (q_fq hok hi false _)
            replace hw : WH G s (cW G K r D X) H locs := hw
            refine lv_iload C.1 C.2.1 dL_stalls_221 (lv_at hl 3 rfl) ?_
            refine lv_icmp_ne (tgt := 258) C.1 C.2.1 dL_stalls_223 (by decide) (fun c_223 => absurd (rfl) c_223) (fun c_223 => ?_)
            refine lv_iload C.1 C.2.1 dL_stalls_226 (lv_at hl 4 rfl) ?_
            refine lv_if_lt (tgt := 258) C.1 C.2.1 dL_stalls_228 (by decide) (fun c_228 => absurd c_228 (q_free h.iz hi true)) (fun c_228 => ?_)
            refine lv_iload C.1 C.2.1 dL_stalls_231 (lv_at hl 3 rfl) ?_
            refine lv_if_lt (tgt := 258) C.1 C.2.1 dL_stalls_233 (by decide) (fun c_233 => absurd c_233 (q_free h.iz hi false)) (fun c_233 => ?_)
            refine lv_iload C.1 C.2.1 dL_stalls_236 (lv_at hl 2 rfl) ?_
            refine lv_if_lt (tgt := 258) C.1 C.2.1 dL_stalls_238 (by decide) (fun c_238 => absurd c_238 (nI_pos (show j1 < 2 ^ 31 by omega))) (fun c_238 => ?_)
            refine lv_iload C.1 C.2.1 dL_stalls_241 (lv_at hl 0 rfl) ?_
            refine lv_if_lt (tgt := 258) C.1 C.2.1 dL_stalls_243 (by decide) (fun c_243 => absurd c_243 (rk1)) (fun c_243 => ?_)
            refine lv_iload C.1 C.2.1 dL_stalls_246 (lv_at hl 0 rfl) ?_
            refine lv_if_ne (tgt := 260) C.1 C.2.1 dL_stalls_248 (by decide) (fun c_248 => ?_) (fun c_248 => ?_)
            · refine lv_iinc (v := nI (i + 1)) (lv' := [(4, .int (nI (i + 1))), (9, .int ((sF (U.2 0) j0 0) - (sF (U.2 0) j1 0))), (8, .int (nI j0)), (7, .int (nI j1)), (6, .int (fqR (U.2 0) i false (nF (U.2 0)))), (5, .int (fqR (U.2 0) i true (nF (U.2 0)))), (3, .int (toR (U.2 0) 1 i + sF (U.2 0) i 1)), (2, .int (toR (U.2 0) 0 i + sF (U.2 0) i 0)), (1, .int (nI (tF (U.2 0)))), (0, .ref (K 7 0))]) C.1 C.2.1 dL_stalls_260 hl (k := 5) rfl (nI_add i 1) (by decide) rfl (fun ls hl => ?_)
              refine lv_goto (tgt := 12) C.1 C.2.1 dL_stalls_263 (by decide) ?_
              exact W.widen (k := 260 * (i + 1)) (n := 1600 * (i + 1)) (by omega) (by omega) (ih12 (i + 1) (by omega) _ _ hw _ (lv_sub hl [0, 6, 7, 8, 9] rfl))
            · refine lv_iload C.1 C.2.1 dL_stalls_251 (lv_at hl 1 rfl) ?_
              refine lv_iload C.1 C.2.1 dL_stalls_253 (lv_at hl 2 rfl) ?_
              refine lv_icmp_le (tgt := 260) C.1 C.2.1 dL_stalls_255 (by decide) (fun c_255 => ?_) (fun c_255 => absurd (rk2 c_248) c_255)
              refine lv_iinc (v := nI (i + 1)) (lv' := [(4, .int (nI (i + 1))), (9, .int ((sF (U.2 0) j0 0) - (sF (U.2 0) j1 0))), (8, .int (nI j0)), (7, .int (nI j1)), (6, .int (fqR (U.2 0) i false (nF (U.2 0)))), (5, .int (fqR (U.2 0) i true (nF (U.2 0)))), (3, .int (toR (U.2 0) 1 i + sF (U.2 0) i 1)), (2, .int (toR (U.2 0) 0 i + sF (U.2 0) i 0)), (1, .int (nI (tF (U.2 0)))), (0, .ref (K 7 0))]) C.1 C.2.1 dL_stalls_260 hl (k := 5) rfl (nI_add i 1) (by decide) rfl (fun ls hl => ?_)
              refine lv_goto (tgt := 12) C.1 C.2.1 dL_stalls_263 (by decide) ?_
              exact W.widen (k := 260 * (i + 1)) (n := 1600 * (i + 1)) (by omega) (by omega) (ih12 (i + 1) (by omega) _ _ hw _ (lv_sub hl [0, 6, 7, 8, 9] rfl))
          · refine lv_iconst (v := -1) C.1 C.2.1 dL_stalls_166 (by decide) ?_
            refine lv_goto (tgt := 178) C.1 C.2.1 dL_stalls_167 (by decide) ?_
            refine lv_istore (lv' := [(8, .int (-1)), (7, .int (nI j1)), (6, .int (fqR (U.2 0) i false (nF (U.2 0)))), (5, .int (fqR (U.2 0) i true (nF (U.2 0)))), (4, .int (nI i)), (3, .int (toR (U.2 0) 1 i + sF (U.2 0) i 1)), (2, .int (toR (U.2 0) 0 i + sF (U.2 0) i 0)), (1, .int (nI (tF (U.2 0)))), (0, .ref (K 7 0))]) C.1 C.2.1 dL_stalls_178 hl (by decide) rfl (fun ls hl => ?_)
            refine lv_iload C.1 C.2.1 dL_stalls_180 (lv_at hl 4 rfl) ?_
            refine lv_if_ne (tgt := 189) C.1 C.2.1 dL_stalls_182 (by decide) (fun c_182 => absurd (c_163) c_182) (fun c_182 => ?_)
            refine lv_iconst (v := 1) C.1 C.2.1 dL_stalls_185 (by decide) ?_
            refine lv_goto (tgt := 202) C.1 C.2.1 dL_stalls_186 (by decide) ?_
            refine lv_istore (lv' := [(9, .int 1), (8, .int (-1)), (7, .int (nI j1)), (6, .int (fqR (U.2 0) i false (nF (U.2 0)))), (5, .int (fqR (U.2 0) i true (nF (U.2 0)))), (4, .int (nI i)), (3, .int (toR (U.2 0) 1 i + sF (U.2 0) i 1)), (2, .int (toR (U.2 0) 0 i + sF (U.2 0) i 0)), (1, .int (nI (tF (U.2 0)))), (0, .ref (K 7 0))]) C.1 C.2.1 dL_stalls_202 hl (by decide) rfl (fun ls hl => ?_)
            refine lv_aload_n C.1 C.2.1 dL_stalls_204 rfl (lv_at hl 9 rfl) ?_
            refine lv_iload C.1 C.2.1 dL_stalls_205 (lv_at hl 5 rfl) ?_
            refine r_hsi C hw (a_freeMoney hF h (nI i) (K := K) (r := r) (X := X)) ml_L_237 yf_L_freeMoney (As := [.ref (K 7 0), .int (nI i)]) rfl rfl ⟨(Nat.le_of_ble_eq_true rfl), (Nat.le_of_ble_eq_true rfl)⟩ ⟨by show _ ≤ 1800; omega, by show _ ≤ 11000; omega⟩ hl.1 (Nat.le_of_ble_eq_true rfl) dL_stalls_207 (fun r_207 _ H locs hp_207 hw => ?_)
            obtain rfl : r_207 = fqR (U.2 0) i true (nF (U.2 0)) := hp_207.trans (q_fq hok hi true _)
            replace hw : WH G s (cW G K r D X) H locs := hw
            refine lv_iload C.1 C.2.1 dL_stalls_210 (lv_at hl 4 rfl) ?_
            refine lv_icmp_ne (tgt := 258) C.1 C.2.1 dL_stalls_212 (by decide) (fun c_212 => absurd (rfl) c_212) (fun c_212 => ?_)
            refine lv_aload_n C.1 C.2.1 dL_stalls_215 rfl (lv_at hl 9 rfl) ?_
            refine lv_iload C.1 C.2.1 dL_stalls_216 (lv_at hl 5 rfl) ?_
            refine r_hsi C hw (a_freeDrops hF h (nI i) (K := K) (r := r) (X := X)) ml_L_240 yf_L_freeDrops (As := [.ref (K 7 0), .int (nI i)]) rfl rfl ⟨(Nat.le_of_ble_eq_true rfl), (Nat.le_of_ble_eq_true rfl)⟩ ⟨by show _ ≤ 1800; omega, by show _ ≤ 11000; omega⟩ hl.1 (Nat.le_of_ble_eq_true rfl) dL_stalls_218 (fun r_218 _ H locs hp_218 hw => ?_)
            obtain rfl : r_218 = fqR (U.2 0) i false (nF (U.2 0)) := hp_218.trans (q_fq hok hi false _)
            replace hw : WH G s (cW G K r D X) H locs := hw
            refine lv_iload C.1 C.2.1 dL_stalls_221 (lv_at hl 3 rfl) ?_
            refine lv_icmp_ne (tgt := 258) C.1 C.2.1 dL_stalls_223 (by decide) (fun c_223 => absurd (rfl) c_223) (fun c_223 => ?_)
            refine lv_iload C.1 C.2.1 dL_stalls_226 (lv_at hl 4 rfl) ?_
            refine lv_if_lt (tgt := 258) C.1 C.2.1 dL_stalls_228 (by decide) (fun c_228 => absurd c_228 (q_free h.iz hi true)) (fun c_228 => ?_)
            refine lv_iload C.1 C.2.1 dL_stalls_231 (lv_at hl 3 rfl) ?_
            refine lv_if_lt (tgt := 258) C.1 C.2.1 dL_stalls_233 (by decide) (fun c_233 => absurd c_233 (q_free h.iz hi false)) (fun c_233 => ?_)
            refine lv_iload C.1 C.2.1 dL_stalls_236 (lv_at hl 2 rfl) ?_
            refine lv_if_lt (tgt := 258) C.1 C.2.1 dL_stalls_238 (by decide) (fun c_238 => absurd c_238 (nI_pos (show j1 < 2 ^ 31 by omega))) (fun c_238 => ?_)
            refine lv_iload C.1 C.2.1 dL_stalls_241 (lv_at hl 0 rfl) ?_
            refine lv_if_lt (tgt := 258) C.1 C.2.1 dL_stalls_243 (by decide) (fun c_243 => absurd c_243 (by decide)) (fun c_243 => ?_)
            refine lv_iload C.1 C.2.1 dL_stalls_246 (lv_at hl 0 rfl) ?_
            refine lv_if_ne (tgt := 260) C.1 C.2.1 dL_stalls_248 (by decide) (fun c_248 => ?_) (fun c_248 => absurd c_248 (by decide))
            refine lv_iinc (v := nI (i + 1)) (lv' := [(4, .int (nI (i + 1))), (9, .int 1), (8, .int (-1)), (7, .int (nI j1)), (6, .int (fqR (U.2 0) i false (nF (U.2 0)))), (5, .int (fqR (U.2 0) i true (nF (U.2 0)))), (3, .int (toR (U.2 0) 1 i + sF (U.2 0) i 1)), (2, .int (toR (U.2 0) 0 i + sF (U.2 0) i 0)), (1, .int (nI (tF (U.2 0)))), (0, .ref (K 7 0))]) C.1 C.2.1 dL_stalls_260 hl (k := 5) rfl (nI_add i 1) (by decide) rfl (fun ls hl => ?_)
            refine lv_goto (tgt := 12) C.1 C.2.1 dL_stalls_263 (by decide) ?_
            exact W.widen (k := 260 * (i + 1)) (n := 1600 * (i + 1)) (by omega) (by omega) (ih12 (i + 1) (by omega) _ _ hw _ (lv_sub hl [0, 6, 7, 8, 9] rfl))
        · have hk : k < nF (U.2 0) := by rw [nI_leI (by omega) (by omega)] at c_53; omega
          refine lv_aload_n C.1 C.2.1 dL_stalls_56 rfl (lv_at hl 7 rfl) ?_
          refine lv_iload C.1 C.2.1 dL_stalls_57 (lv_at hl 0 rfl) ?_
          refine e_orderAt C hw h (hk) ml_L_73 ⟨(Nat.le_of_ble_eq_true rfl), (Nat.le_of_ble_eq_true rfl)⟩ ⟨by show _ ≤ 1800; omega, by show _ ≤ 11000; omega⟩ hl.1 (Nat.le_of_ble_eq_true rfl) dL_stalls_59 (fun H locs hw => ?_)
          refine lv_istore (lv' := [(8, .int (oF (U.2 0) k 0)), (7, .int (nI k)), (6, .int (fqR (U.2 0) i false k)), (5, .int (fqR (U.2 0) i true k)), (4, .int (nI i)), (3, .int (toR (U.2 0) 1 i + sF (U.2 0) i 1)), (2, .int (toR (U.2 0) 0 i + sF (U.2 0) i 0)), (1, .int (nI (tF (U.2 0)))), (0, .ref (K 7 0))]) C.1 C.2.1 dL_stalls_62 hl (by decide) rfl (fun ls hl => ?_)
          refine lv_aload_n C.1 C.2.1 dL_stalls_64 rfl (lv_at hl 8 rfl) ?_
          refine lv_iload C.1 C.2.1 dL_stalls_65 (lv_at hl 0 rfl) ?_
          refine e_stallOf C hw h (hk) ml_L_76 ⟨(Nat.le_of_ble_eq_true rfl), (Nat.le_of_ble_eq_true rfl)⟩ ⟨by show _ ≤ 1800; omega, by show _ ≤ 11000; omega⟩ hl.1 (Nat.le_of_ble_eq_true rfl) dL_stalls_67 (fun H locs hw => ?_)
          refine lv_iload C.1 C.2.1 dL_stalls_70 (lv_at hl 4 rfl) ?_
          refine w_join (σ := Int32) G (pc1 := 80) (fun v1 => v1 = bI (decide (oF (U.2 0) k 1 = nI i))) (fun _ => cW G K r D X) (fun _ => 260 * i + 10 + 12 * k + 2) (fun _ => 1600 * i + 60 + 72 * k + 12) (fun _ => [(8, .int (oF (U.2 0) k 0)), (7, .int (nI k)), (6, .int (fqR (U.2 0) i false k)), (5, .int (fqR (U.2 0) i true k)), (4, .int (nI i)), (3, .int (toR (U.2 0) 1 i + sF (U.2 0) i 1)), (2, .int (toR (U.2 0) 0 i + sF (U.2 0) i 0)), (1, .int (nI (tF (U.2 0)))), (0, .ref (K 7 0))]) (fun v1 => [.int v1]) 10 (fun cont80 => ?_) ?_
          · refine lv_icmp_ne (tgt := 79) C.1 C.2.1 dL_stalls_72 (by decide) (fun c_72 => ?_) (fun c_72 => ?_)
            · refine lv_iconst (v := 0) C.1 C.2.1 dL_stalls_79 (by decide) ?_
              exact W.widen (k := 260 * i + 10 + 12 * k + 2) (n := 1600 * i + 60 + 72 * k + 12) (by omega) (by omega) (cont80 0 (by rw [decide_eq_false c_72]; rfl) _ _ hw _ (lv_sub hl [0, 1, 2, 3, 4, 5, 6, 7, 8] rfl))
            · refine lv_iconst (v := 1) C.1 C.2.1 dL_stalls_75 (by decide) ?_
              refine lv_goto (tgt := 80) C.1 C.2.1 dL_stalls_76 (by decide) ?_
              exact W.widen (k := 260 * i + 10 + 12 * k + 2) (n := 1600 * i + 60 + 72 * k + 12) (by omega) (by omega) (cont80 1 (by rw [decide_eq_true c_72]; rfl) _ _ hw _ (lv_sub hl [0, 1, 2, 3, 4, 5, 6, 7, 8] rfl))
          · intro v1 hv1 H locs hw ls hl
            replace hw : WH G s (cW G K r D X) H locs := hw
            replace hl : lv_has ls 10 [(8, .int (oF (U.2 0) k 0)), (7, .int (nI k)), (6, .int (fqR (U.2 0) i false k)), (5, .int (fqR (U.2 0) i true k)), (4, .int (nI i)), (3, .int (toR (U.2 0) 1 i + sF (U.2 0) i 1)), (2, .int (toR (U.2 0) 0 i + sF (U.2 0) i 0)), (1, .int (nI (tF (U.2 0)))), (0, .ref (K 7 0))] := hl
            show W p l e _ s m _ below meth c0 H locs (260 * i + 10 + 12 * k + 2) (1600 * i + 60 + 72 * k + 12) _ (F0 m 80 ls [.int v1])
            refine lv_istore (lv' := [(9, .int v1), (8, .int (oF (U.2 0) k 0)), (7, .int (nI k)), (6, .int (fqR (U.2 0) i false k)), (5, .int (fqR (U.2 0) i true k)), (4, .int (nI i)), (3, .int (toR (U.2 0) 1 i + sF (U.2 0) i 1)), (2, .int (toR (U.2 0) 0 i + sF (U.2 0) i 0)), (1, .int (nI (tF (U.2 0)))), (0, .ref (K 7 0))]) C.1 C.2.1 dL_stalls_80 hl (by decide) rfl (fun ls hl => ?_)
            refine lv_iload C.1 C.2.1 dL_stalls_82 (lv_at hl 4 rfl) ?_
            refine lv_iload C.1 C.2.1 dL_stalls_84 (lv_at hl 0 rfl) ?_
            refine w_join (σ := Int32) G (pc1 := 115) (fun v2 => v2 = (if fqC (U.2 0) i true k = true then fqV (U.2 0) true k else 0)) (fun _ => cW G K r D X) (fun _ => 260 * i + 10 + 12 * k + 2 + 4) (fun _ => 1600 * i + 60 + 72 * k + 12 + 24) (fun _ => [(9, .int v1), (8, .int (oF (U.2 0) k 0)), (7, .int (nI k)), (6, .int (fqR (U.2 0) i false k)), (5, .int (fqR (U.2 0) i true k)), (4, .int (nI i)), (3, .int (toR (U.2 0) 1 i + sF (U.2 0) i 1)), (2, .int (toR (U.2 0) 0 i + sF (U.2 0) i 0)), (1, .int (nI (tF (U.2 0)))), (0, .ref (K 7 0))]) (fun v2 => [.int v2, .int (fqR (U.2 0) i true k)]) 10 (fun cont115 => ?_) ?_
            · refine lv_if_eq (tgt := 114) C.1 C.2.1 dL_stalls_86 (by decide) (fun c_86 => ?_) (fun c_86 => ?_)
              · refine lv_iconst (v := 0) C.1 C.2.1 dL_stalls_114 (by decide) ?_
                exact W.widen (k := 260 * i + 10 + 12 * k + 2 + 4) (n := 1600 * i + 60 + 72 * k + 12 + 24) (by omega) (by omega) (cont115 0 ((q_fqt hv1).1 c_86) _ _ hw _ (lv_sub hl [0, 1, 2, 3, 4, 5, 6, 7, 8, 9] rfl))
              · refine lv_aload_n C.1 C.2.1 dL_stalls_89 rfl (lv_at hl 9 rfl) ?_
                refine lv_iload C.1 C.2.1 dL_stalls_90 (lv_at hl 1 rfl) ?_
                refine e_isBuying C hw h (hk) ml_L_79 ⟨(Nat.le_of_ble_eq_true rfl), (Nat.le_of_ble_eq_true rfl)⟩ ⟨by show _ ≤ 1800; omega, by show _ ≤ 11000; omega⟩ hl.1 (Nat.le_of_ble_eq_true rfl) dL_stalls_92 (fun H locs hw => ?_)
                refine lv_if_eq (tgt := 114) C.1 C.2.1 dL_stalls_95 (by decide) (fun c_95 => ?_) (fun c_95 => ?_)
                · refine lv_iconst (v := 0) C.1 C.2.1 dL_stalls_114 (by decide) ?_
                  exact W.widen (k := 260 * i + 10 + 12 * k + 2 + 4) (n := 1600 * i + 60 + 72 * k + 12 + 24) (by omega) (by omega) (cont115 0 ((q_fqt hv1).2.1 c_95) _ _ hw _ (lv_sub hl [0, 1, 2, 3, 4, 5, 6, 7, 8, 9] rfl))
                · refine lv_aload_n C.1 C.2.1 dL_stalls_98 rfl (lv_at hl 9 rfl) ?_
                  refine lv_iload C.1 C.2.1 dL_stalls_99 (lv_at hl 1 rfl) ?_
                  refine e_priceOf C hw h (hk) ml_L_83 ⟨(Nat.le_of_ble_eq_true rfl), (Nat.le_of_ble_eq_true rfl)⟩ ⟨by show _ ≤ 1800; omega, by show _ ≤ 11000; omega⟩ hl.1 (Nat.le_of_ble_eq_true rfl) dL_stalls_101 (fun H locs hw => ?_)
                  refine lv_aload_n C.1 C.2.1 dL_stalls_104 rfl (lv_at hl 9 rfl) ?_
                  refine lv_iload C.1 C.2.1 dL_stalls_105 (lv_at hl 1 rfl) ?_
                  refine e_quantityOf C hw h (hk) ml_L_86 ⟨(Nat.le_of_ble_eq_true rfl), (Nat.le_of_ble_eq_true rfl)⟩ ⟨by show _ ≤ 1800; omega, by show _ ≤ 11000; omega⟩ hl.1 (Nat.le_of_ble_eq_true rfl) dL_stalls_107 (fun H locs hw => ?_)
                  refine lv_imul C.1 C.2.1 dL_stalls_110 ?_
                  refine lv_goto (tgt := 115) C.1 C.2.1 dL_stalls_111 (by decide) ?_
                  exact W.widen (k := 260 * i + 10 + 12 * k + 2 + 4) (n := 1600 * i + 60 + 72 * k + 12 + 24) (by omega) (by omega) (cont115 (oF (U.2 0) k 3 * oF (U.2 0) k 4) ((q_fqt hv1).2.2 c_86 c_95) _ _ hw _ (lv_sub hl [0, 1, 2, 3, 4, 5, 6, 7, 8, 9] rfl))
            · intro v2 hv2 H locs hw ls hl
              replace hw : WH G s (cW G K r D X) H locs := hw
              replace hl : lv_has ls 10 [(9, .int v1), (8, .int (oF (U.2 0) k 0)), (7, .int (nI k)), (6, .int (fqR (U.2 0) i false k)), (5, .int (fqR (U.2 0) i true k)), (4, .int (nI i)), (3, .int (toR (U.2 0) 1 i + sF (U.2 0) i 1)), (2, .int (toR (U.2 0) 0 i + sF (U.2 0) i 0)), (1, .int (nI (tF (U.2 0)))), (0, .ref (K 7 0))] := hl
              show W p l e _ s m _ below meth c0 H locs (260 * i + 10 + 12 * k + 2 + 4) (1600 * i + 60 + 72 * k + 12 + 24) _ (F0 m 115 ls [.int v2, .int (fqR (U.2 0) i true k)])
              subst hv2
              refine lv_isub C.1 C.2.1 dL_stalls_115 ?_
              refine lv_istore (lv' := [(5, .int ((fqR (U.2 0) i true k) - (if fqC (U.2 0) i true k = true then fqV (U.2 0) true k else 0))), (9, .int v1), (8, .int (oF (U.2 0) k 0)), (7, .int (nI k)), (6, .int (fqR (U.2 0) i false k)), (4, .int (nI i)), (3, .int (toR (U.2 0) 1 i + sF (U.2 0) i 1)), (2, .int (toR (U.2 0) 0 i + sF (U.2 0) i 0)), (1, .int (nI (tF (U.2 0)))), (0, .ref (K 7 0))]) C.1 C.2.1 dL_stalls_116 hl (by decide) rfl (fun ls hl => ?_)
              refine lv_iload C.1 C.2.1 dL_stalls_118 (lv_at hl 4 rfl) ?_
              refine lv_iload C.1 C.2.1 dL_stalls_120 (lv_at hl 1 rfl) ?_
              refine w_join (σ := Int32) G (pc1 := 144) (fun v3 => v3 = (if fqC (U.2 0) i false k = true then fqV (U.2 0) false k else 0)) (fun _ => cW G K r D X) (fun _ => 260 * i + 10 + 12 * k + 2 + 4 + 4) (fun _ => 1600 * i + 60 + 72 * k + 12 + 24 + 24) (fun _ => [(5, .int ((fqR (U.2 0) i true k) - (if fqC (U.2 0) i true k = true then fqV (U.2 0) true k else 0))), (9, .int v1), (8, .int (oF (U.2 0) k 0)), (7, .int (nI k)), (6, .int (fqR (U.2 0) i false k)), (4, .int (nI i)), (3, .int (toR (U.2 0) 1 i + sF (U.2 0) i 1)), (2, .int (toR (U.2 0) 0 i + sF (U.2 0) i 0)), (1, .int (nI (tF (U.2 0)))), (0, .ref (K 7 0))]) (fun v3 => [.int v3, .int (fqR (U.2 0) i false k)]) 10 (fun cont144 => ?_) ?_
              · refine lv_if_eq (tgt := 143) C.1 C.2.1 dL_stalls_122 (by decide) (fun c_122 => ?_) (fun c_122 => ?_)
                · refine lv_iconst (v := 0) C.1 C.2.1 dL_stalls_143 (by decide) ?_
                  exact W.widen (k := 260 * i + 10 + 12 * k + 2 + 4 + 4) (n := 1600 * i + 60 + 72 * k + 12 + 24 + 24) (by omega) (by omega) (cont144 0 ((q_fqf hv1).1 c_122) _ _ hw _ (lv_sub hl [0, 1, 2, 3, 4, 5, 6, 7, 8, 9] rfl))
                · refine lv_aload_n C.1 C.2.1 dL_stalls_125 rfl (lv_at hl 9 rfl) ?_
                  refine lv_iload C.1 C.2.1 dL_stalls_126 (lv_at hl 2 rfl) ?_
                  refine e_isBuying C hw h (hk) ml_L_79 ⟨(Nat.le_of_ble_eq_true rfl), (Nat.le_of_ble_eq_true rfl)⟩ ⟨by show _ ≤ 1800; omega, by show _ ≤ 11000; omega⟩ hl.1 (Nat.le_of_ble_eq_true rfl) dL_stalls_128 (fun H locs hw => ?_)
                  refine lv_if_ne (tgt := 143) C.1 C.2.1 dL_stalls_131 (by decide) (fun c_131 => ?_) (fun c_131 => ?_)
                  · refine lv_iconst (v := 0) C.1 C.2.1 dL_stalls_143 (by decide) ?_
                    exact W.widen (k := 260 * i + 10 + 12 * k + 2 + 4 + 4) (n := 1600 * i + 60 + 72 * k + 12 + 24 + 24) (by omega) (by omega) (cont144 0 ((q_fqf hv1).2.1 c_131) _ _ hw _ (lv_sub hl [0, 1, 2, 3, 4, 5, 6, 7, 8, 9] rfl))
                  · refine lv_aload_n C.1 C.2.1 dL_stalls_134 rfl (lv_at hl 9 rfl) ?_
                    refine lv_iload C.1 C.2.1 dL_stalls_135 (lv_at hl 2 rfl) ?_
                    refine e_quantityOf C hw h (hk) ml_L_86 ⟨(Nat.le_of_ble_eq_true rfl), (Nat.le_of_ble_eq_true rfl)⟩ ⟨by show _ ≤ 1800; omega, by show _ ≤ 11000; omega⟩ hl.1 (Nat.le_of_ble_eq_true rfl) dL_stalls_137 (fun H locs hw => ?_)
                    refine lv_goto (tgt := 144) C.1 C.2.1 dL_stalls_140 (by decide) ?_
                    exact W.widen (k := 260 * i + 10 + 12 * k + 2 + 4 + 4) (n := 1600 * i + 60 + 72 * k + 12 + 24 + 24) (by omega) (by omega) (cont144 (oF (U.2 0) k 4) ((q_fqf hv1).2.2 c_122 c_131) _ _ hw _ (lv_sub hl [0, 1, 2, 3, 4, 5, 6, 7, 8, 9] rfl))
              · intro v3 hv3 H locs hw ls hl
                replace hw : WH G s (cW G K r D X) H locs := hw
                replace hl : lv_has ls 10 [(5, .int ((fqR (U.2 0) i true k) - (if fqC (U.2 0) i true k = true then fqV (U.2 0) true k else 0))), (9, .int v1), (8, .int (oF (U.2 0) k 0)), (7, .int (nI k)), (6, .int (fqR (U.2 0) i false k)), (4, .int (nI i)), (3, .int (toR (U.2 0) 1 i + sF (U.2 0) i 1)), (2, .int (toR (U.2 0) 0 i + sF (U.2 0) i 0)), (1, .int (nI (tF (U.2 0)))), (0, .ref (K 7 0))] := hl
                show W p l e _ s m _ below meth c0 H locs (260 * i + 10 + 12 * k + 2 + 4 + 4) (1600 * i + 60 + 72 * k + 12 + 24 + 24) _ (F0 m 144 ls [.int v3, .int (fqR (U.2 0) i false k)])
                subst hv3
                refine lv_isub C.1 C.2.1 dL_stalls_144 ?_
                refine lv_istore (lv' := [(6, .int ((fqR (U.2 0) i false k) - (if fqC (U.2 0) i false k = true then fqV (U.2 0) false k else 0))), (5, .int ((fqR (U.2 0) i true k) - (if fqC (U.2 0) i true k = true then fqV (U.2 0) true k else 0))), (9, .int v1), (8, .int (oF (U.2 0) k 0)), (7, .int (nI k)), (4, .int (nI i)), (3, .int (toR (U.2 0) 1 i + sF (U.2 0) i 1)), (2, .int (toR (U.2 0) 0 i + sF (U.2 0) i 0)), (1, .int (nI (tF (U.2 0)))), (0, .ref (K 7 0))]) C.1 C.2.1 dL_stalls_145 hl (by decide) rfl (fun ls hl => ?_)
                refine lv_iinc (v := nI (k + 1)) (lv' := [(7, .int (nI (k + 1))), (6, .int ((fqR (U.2 0) i false k) - (if fqC (U.2 0) i false k = true then fqV (U.2 0) false k else 0))), (5, .int ((fqR (U.2 0) i true k) - (if fqC (U.2 0) i true k = true then fqV (U.2 0) true k else 0))), (9, .int v1), (8, .int (oF (U.2 0) k 0)), (4, .int (nI i)), (3, .int (toR (U.2 0) 1 i + sF (U.2 0) i 1)), (2, .int (toR (U.2 0) 0 i + sF (U.2 0) i 0)), (1, .int (nI (tF (U.2 0)))), (0, .ref (K 7 0))]) C.1 C.2.1 dL_stalls_147 hl (k := 4) rfl (nI_add k 1) (by decide) rfl (fun ls hl => ?_)
                refine lv_goto (tgt := 47) C.1 C.2.1 dL_stalls_150 (by decide) ?_
                exact W.widen (k := 260 * i + 10 + 12 * (k + 1)) (n := 1600 * i + 60 + 72 * (k + 1)) (by omega) (by omega) (ih47 (k + 1) (by omega) _ _ hw _ (lv_sub hl [0, 1, 2, 5, 6, 7, 8, 9] rfl))
      · rintro k hk9; omega
  · rintro i hi9; omega

