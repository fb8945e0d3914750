/-! The law: book -/
set_option maxHeartbeats 4000000 in
set_option maxRecDepth 100000 in
theorem k_book {l : Launch} {G : Gx} (hF : SF l G) {c9 : Int} {D : CD} {U : MV_} (h : Sm c9 D U) (hc9 : c9 ≤ 9000) (hN : Nc (U.2 0)) {K r : Nat → Nat → Nat} {X : va_W} : MI l G yL_book cL_book 11 .boolean 12 900 5500 [.ref (K 7 0)] (cW G K r D X) (fun v (D2 : CD) => v = 1 ∧ D2.S = D.S ∧ Sm c9 D2 U) (fun D2 : CD => cW G K r D2 X) := by
  refine mt_of hF (by decide) (Nat.le_of_ble_eq_true rfl) ?_
  intro p e s m below meth c0 C hin ls hl H locs hw
  have hl : lv_has ls 11 [(0, .ref (K 7 0))] := hl
  have hok := h.okf
  have hbk := h.iz.1
  have h6 := hok.2.2.2.1
  have h20 := hok.2.1
  have hc : c9 + 60 ≤ 40000 := by omega
  have hf2 : (U.2 0 2).toInt ≤ 9999 := by have := h.iz.2.2.2.2.2; omega
  refine lv_aload_n C.1 C.2.1 dL_book_0 rfl (lv_at hl 0 rfl) ?_
  refine d_orderCount C hw h ml_L_231 ⟨(Nat.le_of_ble_eq_true rfl), (Nat.le_of_ble_eq_true rfl)⟩ ⟨by show _ ≤ 900; omega, by show _ ≤ 5500; omega⟩ hl.1 (Nat.le_of_ble_eq_true rfl) dL_book_1 (fun H locs hw => ?_)
  refine lv_istore_n (lv' := [(1, .int (nI (nF (U.2 0)))), (0, .ref (K 7 0))]) C.1 C.2.1 dL_book_4 rfl hl (by decide) rfl (fun ls hl => ?_)
  refine lv_bipush (v := -13) C.1 C.2.1 dL_book_5 (by decide) ?_
  refine lv_istore_n (lv' := [(2, .int (-13)), (1, .int (nI (nF (U.2 0)))), (0, .ref (K 7 0))]) C.1 C.2.1 dL_book_7 rfl hl (by decide) rfl (fun ls hl => ?_)
  refine lv_bipush (v := -13) C.1 C.2.1 dL_book_8 (by decide) ?_
  refine lv_istore_n (lv' := [(3, .int (-13)), (2, .int (-13)), (1, .int (nI (nF (U.2 0)))), (0, .ref (K 7 0))]) C.1 C.2.1 dL_book_10 rfl hl (by decide) rfl (fun ls hl => ?_)
  refine lv_iconst (v := 0) C.1 C.2.1 dL_book_11 (by decide) ?_
  refine lv_istore (lv' := [(4, .int 0), (3, .int (-13)), (2, .int (-13)), (1, .int (nI (nF (U.2 0)))), (0, .ref (K 7 0))]) C.1 C.2.1 dL_book_12 hl (by decide) rfl (fun ls hl => ?_)
  refine lv_sipush (v := 200) C.1 C.2.1 dL_book_14 (by decide) ?_
  refine lx_newi C hw (n := 200) rfl (by decide) ⟨by show _ ≤ 900; omega, by show _ ≤ 5500; omega⟩ dL_book_17 (fun q17 H locs hw => ?_)
  replace hw : WH G s (cW G K r D ((q17, .inl (G.2.2.1 0, 200, .inl (fun _ => 0))) :: X)) H locs := hw
  refine lv_astore (lv' := [(5, .ref q17), (4, .int 0), (3, .int (-13)), (2, .int (-13)), (1, .int (nI (nF (U.2 0)))), (0, .ref (K 7 0))]) C.1 C.2.1 dL_book_19 hl (by decide) rfl (fun ls hl => ?_)
  refine lv_iconst (v := 0) C.1 C.2.1 dL_book_21 (by decide) ?_
  refine lv_istore (lv' := [(6, .int 0), (5, .ref q17), (4, .int 0), (3, .int (-13)), (2, .int (-13)), (1, .int (nI (nF (U.2 0)))), (0, .ref (K 7 0))]) C.1 C.2.1 dL_book_22 hl (by decide) rfl (fun ls hl => ?_)
  refine W.widen (k := 10 + 24 * 0) (n := 300 + 144 * 0) (by omega) (by omega) ?_
  refine w_loop (σ := Nat × (Nat → Int32)) G (fun u ⟨k, a⟩ => k ≤ nF (U.2 0) ∧ k + u = nF (U.2 0) + 1 ∧ ∀ j, j < 200 → a j = sumA (U.2 0) k j) (fun ⟨k, a⟩ => cW G K r D ((q17, .inl (G.2.2.1 0, 200, .inl a)) :: X)) (fun ⟨k, a⟩ => 10 + 24 * k) (fun ⟨k, a⟩ => 300 + 144 * k) (fun ⟨k, a⟩ => [(6, .int (nI k)), (5, .ref q17), (4, .int (bsF (U.2 0) k)), (3, .int (bOrd (U.2 0) false k)), (2, .int (bOrd (U.2 0) true k)), (1, .int (nI (nF (U.2 0)))), (0, .ref (K 7 0))]) 11 ?_ ?_ (nF (U.2 0) + 1) ⟨0, (fun _ => 0)⟩ (⟨by omega, by omega, fun j hj => sumA_0.symm⟩) hw (lv_sub hl [0, 1, 2, 3, 4, 5, 6] rfl)
  · rintro n24 ⟨k, a⟩ ⟨hk8, hk9, ha⟩ ih24 H locs hw ls hl
    replace hw : WH G s (cW G K r D ((q17, .inl (G.2.2.1 0, 200, .inl a)) :: X)) H locs := hw
    replace hl : lv_has ls 11 [(6, .int (nI k)), (5, .ref q17), (4, .int (bsF (U.2 0) k)), (3, .int (bOrd (U.2 0) false k)), (2, .int (bOrd (U.2 0) true k)), (1, .int (nI (nF (U.2 0)))), (0, .ref (K 7 0))] := hl
    show W p l e _ s m _ below meth c0 H locs (10 + 24 * k) (300 + 144 * k) _ (F0 m 24 ls [])
    refine lv_iload C.1 C.2.1 dL_book_24 (lv_at hl 0 rfl) ?_
    refine lv_iload_n C.1 C.2.1 dL_book_26 rfl (lv_at hl 5 rfl) ?_
    refine lv_icmp_ge (tgt := 254) C.1 C.2.1 dL_book_27 (by decide) (fun c_27 => ?_) (fun c_27 => ?_)
    · obtain rfl : k = nF (U.2 0) := by rw [nI_leI (by omega) (by omega)] at c_27; omega
      refine lv_iconst (v := 1) C.1 C.2.1 dL_book_254 (by decide) ?_
      refine lv_istore (lv' := [(6, .int 1), (5, .ref q17), (4, .int (bsF (U.2 0) (nF (U.2 0)))), (3, .int (bOrd (U.2 0) false (nF (U.2 0)))), (2, .int (bOrd (U.2 0) true (nF (U.2 0)))), (1, .int (nI (nF (U.2 0)))), (0, .ref (K 7 0))]) C.1 C.2.1 dL_book_255 hl (by decide) rfl (fun ls hl => ?_)
      refine W.widen (k := 510 + 2 * 0) (n := 3200 + 12 * 0) (by omega) (by omega) ?_
      refine w_loop (σ := Nat) G (fun u y => y ≤ 99 ∧ y + u = 100) (fun y => cW G K r D ((q17, .inl (G.2.2.1 0, 200, .inl a)) :: X)) (fun y => 510 + 2 * y) (fun y => 3200 + 12 * y) (fun y => [(6, .int (nI (y + 1))), (5, .ref q17), (4, .int (bsF (U.2 0) (nF (U.2 0)))), (3, .int (bOrd (U.2 0) false (nF (U.2 0)))), (2, .int (bOrd (U.2 0) true (nF (U.2 0)))), (1, .int (nI (nF (U.2 0)))), (0, .ref (K 7 0))]) 11 ?_ ?_ 100 0 (by omega) hw (lv_sub hl [0, 1, 2, 3, 4, 5, 6] rfl)
      · rintro n257 y hy9 ih257 H locs hw ls hl
        replace hw : WH G s (cW G K r D ((q17, .inl (G.2.2.1 0, 200, .inl a)) :: X)) H locs := hw
        replace hl : lv_has ls 11 [(6, .int (nI (y + 1))), (5, .ref q17), (4, .int (bsF (U.2 0) (nF (U.2 0)))), (3, .int (bOrd (U.2 0) false (nF (U.2 0)))), (2, .int (bOrd (U.2 0) true (nF (U.2 0)))), (1, .int (nI (nF (U.2 0)))), (0, .ref (K 7 0))] := hl
        show W p l e _ s m _ below meth c0 H locs (510 + 2 * y) (3200 + 12 * y) _ (F0 m 257 ls [])
        refine lv_iload C.1 C.2.1 dL_book_257 (lv_at hl 0 rfl) ?_
        refine lv_bipush (v := 100) C.1 C.2.1 dL_book_259 (by decide) ?_
        refine lv_icmp_ge (tgt := 303) C.1 C.2.1 dL_book_261 (by decide) (fun c_261 => ?_) (fun c_261 => ?_)
        · obtain rfl : y = 99 := by rw [i_le, i_nI (by omega), show (100 : Int32).toInt = 100 by decide] at c_261; omega
          refine lv_iload_n C.1 C.2.1 dL_book_303 rfl (lv_at hl 4 rfl) ?_
          refine w_join (σ := Int32) G (pc1 := 328) (fun v3 => v3 = (if spB (U.2 0) = true then spV (U.2 0) else -1300)) (fun _ => cW G K r D ((q17, .inl (G.2.2.1 0, 200, .inl a)) :: X)) (fun _ => 510 + 2 * 99 + 2) (fun _ => 3200 + 12 * 99 + 12) (fun _ => [(6, .int (nI (99 + 1))), (5, .ref q17), (4, .int (bsF (U.2 0) (nF (U.2 0)))), (3, .int (bOrd (U.2 0) false (nF (U.2 0)))), (2, .int (bOrd (U.2 0) true (nF (U.2 0)))), (1, .int (nI (nF (U.2 0)))), (0, .ref (K 7 0))]) (fun v3 => [.int v3]) 11 (fun cont328 => ?_) ?_
          · refine lv_if_lt (tgt := 311) C.1 C.2.1 dL_book_304 (by decide) (fun c_304 => ?_) (fun c_304 => ?_)
            · refine lv_sipush (v := -1300) C.1 C.2.1 dL_book_311 (by decide) ?_
              refine lv_goto (tgt := 328) C.1 C.2.1 dL_book_314 (by decide) ?_
              exact W.widen (k := 510 + 2 * 99 + 2) (n := 3200 + 12 * 99 + 12) (by omega) (by omega) (cont328 (-1300) ((q_sp0 hbk c_304).symm) _ _ hw _ (lv_sub hl [0, 1, 2, 3, 4, 5, 6] rfl))
            · obtain ⟨j3, hj3, hm3, ej3⟩ := bO_ge c_304
              refine lv_iload_n C.1 C.2.1 dL_book_307 rfl (lv_at hl 3 rfl) ?_
              refine lv_if_ge (tgt := 317) C.1 C.2.1 dL_book_308 (by decide) (fun c_308 => ?_) (fun c_308 => ?_)
              · obtain ⟨j4, hj4, hm4, ej4⟩ := bO_ge (b := false) (k := nF (U.2 0)) (fun q9 => absurd c_308 (Int32.not_le.mpr q9))
                refine lv_aload_n C.1 C.2.1 dL_book_317 rfl (lv_at hl 6 rfl) ?_
                refine lv_iload_n C.1 C.2.1 dL_book_318 rfl (lv_at hl 3 rfl) ?_
                refine r_hsi C hw (a_priceOf hF h (bOrd (U.2 0) false (nF (U.2 0))) (K := K) (r := r) (X := ((q17, .inl (G.2.2.1 0, 200, .inl a)) :: X))) ml_L_253 yf_L_priceOf (As := [.ref (K 7 0), .int (bOrd (U.2 0) false (nF (U.2 0)))]) rfl rfl ⟨(Nat.le_of_ble_eq_true rfl), (Nat.le_of_ble_eq_true rfl)⟩ ⟨by show _ ≤ 900; omega, by show _ ≤ 5500; omega⟩ hl.1 (Nat.le_of_ble_eq_true rfl) dL_book_319 (fun r_319 _ H locs hp_319 hw => ?_)
                obtain rfl : r_319 = oF (U.2 0) j4 3 := hp_319.trans (by rw [ej4]; exact q_ov hbk hj4 3 _)
                replace hw : WH G s (cW G K r D ((q17, .inl (G.2.2.1 0, 200, .inl a)) :: X)) H locs := hw
                refine lv_aload_n C.1 C.2.1 dL_book_322 rfl (lv_at hl 6 rfl) ?_
                refine lv_iload_n C.1 C.2.1 dL_book_323 rfl (lv_at hl 4 rfl) ?_
                refine r_hsi C hw (a_priceOf hF h (bOrd (U.2 0) true (nF (U.2 0))) (K := K) (r := r) (X := ((q17, .inl (G.2.2.1 0, 200, .inl a)) :: X))) ml_L_253 yf_L_priceOf (As := [.ref (K 7 0), .int (bOrd (U.2 0) true (nF (U.2 0)))]) rfl rfl ⟨(Nat.le_of_ble_eq_true rfl), (Nat.le_of_ble_eq_true rfl)⟩ ⟨by show _ ≤ 900; omega, by show _ ≤ 5500; omega⟩ hl.1 (Nat.le_of_ble_eq_true rfl) dL_book_324 (fun r_324 _ H locs hp_324 hw => ?_)
                obtain rfl : r_324 = oF (U.2 0) j3 3 := hp_324.trans (by rw [ej3]; exact q_ov hbk hj3 3 _)
                replace hw : WH G s (cW G K r D ((q17, .inl (G.2.2.1 0, 200, .inl a)) :: X)) H locs := hw
                refine lv_isub C.1 C.2.1 dL_book_327 ?_
                exact W.widen (k := 510 + 2 * 99 + 2) (n := 3200 + 12 * 99 + 12) (by omega) (by omega) (cont328 (oF (U.2 0) j4 3 - oF (U.2 0) j3 3) (q_sp1 hm3 hm4) _ _ hw _ (lv_sub hl [0, 1, 2, 3, 4, 5, 6] rfl))
              · refine lv_sipush (v := -1300) C.1 C.2.1 dL_book_311 (by decide) ?_
                refine lv_goto (tgt := 328) C.1 C.2.1 dL_book_314 (by decide) ?_
                exact W.widen (k := 510 + 2 * 99 + 2) (n := 3200 + 12 * 99 + 12) (by omega) (by omega) (cont328 (-1300) ((q_sp0 hbk (Int32.not_le.mp c_308)).symm) _ _ hw _ (lv_sub hl [0, 1, 2, 3, 4, 5, 6] rfl))
          · intro v3 hv3 H locs hw ls hl
            replace hw : WH G s (cW G K r D ((q17, .inl (G.2.2.1 0, 200, .inl a)) :: X)) H locs := hw
            replace hl : lv_has ls 11 [(6, .int (nI (99 + 1))), (5, .ref q17), (4, .int (bsF (U.2 0) (nF (U.2 0)))), (3, .int (bOrd (U.2 0) false (nF (U.2 0)))), (2, .int (bOrd (U.2 0) true (nF (U.2 0)))), (1, .int (nI (nF (U.2 0)))), (0, .ref (K 7 0))] := hl
            show W p l e _ s m _ below meth c0 H locs (510 + 2 * 99 + 2) (3200 + 12 * 99 + 12) _ (F0 m 328 ls [.int v3])
            subst hv3
            refine lv_istore (lv' := [(6, .int ((if spB (U.2 0) = true then spV (U.2 0) else -1300))), (5, .ref q17), (4, .int (bsF (U.2 0) (nF (U.2 0)))), (3, .int (bOrd (U.2 0) false (nF (U.2 0)))), (2, .int (bOrd (U.2 0) true (nF (U.2 0)))), (1, .int (nI (nF (U.2 0)))), (0, .ref (K 7 0))]) C.1 C.2.1 dL_book_328 hl (by decide) rfl (fun ls hl => ?_)
            refine lv_iload_n C.1 C.2.1 dL_book_330 rfl (lv_at hl 5 rfl) ?_
            refine w_join (σ := Int32) G (pc1 := 353) (fun v4 => v4 = 1) (fun _ => cW G K r D ((q17, .inl (G.2.2.1 0, 200, .inl a)) :: X)) (fun _ => 510 + 2 * 99 + 2 + 1) (fun _ => 3200 + 12 * 99 + 12 + 6) (fun _ => [(6, .int ((if spB (U.2 0) = true then spV (U.2 0) else -1300))), (5, .ref q17), (4, .int (bsF (U.2 0) (nF (U.2 0)))), (3, .int (bOrd (U.2 0) false (nF (U.2 0)))), (2, .int (bOrd (U.2 0) true (nF (U.2 0)))), (1, .int (nI (nF (U.2 0)))), (0, .ref (K 7 0))]) (fun v4 => [.int v4]) 11 (fun cont353 => ?_) ?_
            · refine lv_if_eq (tgt := 348) C.1 C.2.1 dL_book_331 (by decide) (fun c_331 => ?_) (fun c_331 => ?_)
              · refine lv_iconst (v := 1) C.1 C.2.1 dL_book_348 (by decide) ?_
                refine lv_goto (tgt := 353) C.1 C.2.1 dL_book_349 (by decide) ?_
                exact W.widen (k := 510 + 2 * 99 + 2 + 1) (n := 3200 + 12 * 99 + 12 + 6) (by omega) (by omega) (cont353 1 (rfl) _ _ hw _ (lv_sub hl [0, 1, 2, 3, 4, 5, 6] rfl))
              · have h0n : 0 < nF (U.2 0) := Nat.pos_of_ne_zero (fun e9 => c_331 (by rw [e9]; rfl))
                refine lv_aload_n C.1 C.2.1 dL_book_334 rfl (lv_at hl 6 rfl) ?_
                refine d_buyingShare C hw h c_331 ml_L_265 ⟨(Nat.le_of_ble_eq_true rfl), (Nat.le_of_ble_eq_true rfl)⟩ ⟨by show _ ≤ 900; omega, by show _ ≤ 5500; omega⟩ hl.1 (Nat.le_of_ble_eq_true rfl) dL_book_335 (fun z9 H locs hz9 hbs hw => ?_)
                refine lv_iload C.1 C.2.1 dL_book_338 (lv_at hl 2 rfl) ?_
                refine r_toe (show _ = nI z9 from hbs) ?_
                refine lv_i2f C.1 C.2.1 dL_book_340 ?_
                refine lv_iload_n C.1 C.2.1 dL_book_341 rfl (lv_at hl 5 rfl) ?_
                refine lv_i2f C.1 C.2.1 dL_book_342 ?_
                refine lv_fdiv C.1 C.2.1 dL_book_343 (fp_fdiv z9 _ hz9 (by omega) h0n).1 ?_
                refine lv_fcmp C.1 C.2.1 dL_book_344 ?_
                rw [q_ff z9 _ hz9 (by omega) h0n]
                show W p l e _ s m _ below meth c0 H locs _ _ _ (F0 m 345 ls [.int 0])
                refine lv_if_ne (tgt := 352) C.1 C.2.1 dL_book_345 (by decide) (fun c_345 => absurd (rfl) c_345) (fun c_345 => ?_)
                refine lv_iconst (v := 1) C.1 C.2.1 dL_book_348 (by decide) ?_
                refine lv_goto (tgt := 353) C.1 C.2.1 dL_book_349 (by decide) ?_
                exact W.widen (k := 510 + 2 * 99 + 2 + 1) (n := 3200 + 12 * 99 + 12 + 6) (by omega) (by omega) (cont353 1 (rfl) _ _ hw _ (lv_sub hl [0, 1, 2, 3, 4, 5, 6] rfl))
            · intro v4 hv4 H locs hw ls hl
              replace hw : WH G s (cW G K r D ((q17, .inl (G.2.2.1 0, 200, .inl a)) :: X)) H locs := hw
              replace hl : lv_has ls 11 [(6, .int ((if spB (U.2 0) = true then spV (U.2 0) else -1300))), (5, .ref q17), (4, .int (bsF (U.2 0) (nF (U.2 0)))), (3, .int (bOrd (U.2 0) false (nF (U.2 0)))), (2, .int (bOrd (U.2 0) true (nF (U.2 0)))), (1, .int (nI (nF (U.2 0)))), (0, .ref (K 7 0))] := hl
              show W p l e _ s m _ below meth c0 H locs (510 + 2 * 99 + 2 + 1) (3200 + 12 * 99 + 12 + 6) _ (F0 m 353 ls [.int v4])
              subst hv4
              refine lv_istore (lv' := [(7, .int (1)), (6, .int ((if spB (U.2 0) = true then spV (U.2 0) else -1300))), (5, .ref q17), (4, .int (bsF (U.2 0) (nF (U.2 0)))), (3, .int (bOrd (U.2 0) false (nF (U.2 0)))), (2, .int (bOrd (U.2 0) true (nF (U.2 0)))), (1, .int (nI (nF (U.2 0)))), (0, .ref (K 7 0))]) C.1 C.2.1 dL_book_353 hl (by decide) rfl (fun ls hl => ?_)
              refine lv_iload C.1 C.2.1 dL_book_355 (lv_at hl 0 rfl) ?_
              refine lv_if_eq (tgt := 424) C.1 C.2.1 dL_book_357 (by decide) (fun c_357 => absurd c_357 (by decide)) (fun c_357 => ?_)
              refine lv_iload_n C.1 C.2.1 dL_book_360 rfl (lv_at hl 6 rfl) ?_
              refine lv_bipush (v := 20) C.1 C.2.1 dL_book_361 (by decide) ?_
              refine lv_icmp_gt (tgt := 424) C.1 C.2.1 dL_book_363 (by decide) (fun c_363 => absurd c_363 (fun q9 => absurd ((nI_ltI (a := 20) (b := nF (U.2 0)) (by decide) (by omega)).mp q9) (by omega))) (fun c_363 => ?_)
              refine lv_aload_n C.1 C.2.1 dL_book_366 rfl (lv_at hl 7 rfl) ?_
              refine r_hsi C hw (a_bestBuy hF h (K := K) (r := r) (X := ((q17, .inl (G.2.2.1 0, 200, .inl a)) :: X))) ml_L_269 yf_L_bestBuy (As := [.ref (K 7 0)]) rfl rfl ⟨(Nat.le_of_ble_eq_true rfl), (Nat.le_of_ble_eq_true rfl)⟩ ⟨by show _ ≤ 900; omega, by show _ ≤ 5500; omega⟩ hl.1 (Nat.le_of_ble_eq_true rfl) dL_book_367 (fun r_367 _ H locs hp_367 hw => ?_)
              obtain rfl : r_367 = bOrd (U.2 0) true (nF (U.2 0)) := hp_367.trans (q_bb true)
              replace hw : WH G s (cW G K r D ((q17, .inl (G.2.2.1 0, 200, .inl a)) :: X)) H locs := hw
              refine lv_iload_n C.1 C.2.1 dL_book_370 rfl (lv_at hl 5 rfl) ?_
              refine lv_icmp_ne (tgt := 424) C.1 C.2.1 dL_book_371 (by decide) (fun c_371 => absurd (rfl) c_371) (fun c_371 => ?_)
              refine lv_aload_n C.1 C.2.1 dL_book_374 rfl (lv_at hl 7 rfl) ?_
              refine r_hsi C hw (a_bestSell hF h (K := K) (r := r) (X := ((q17, .inl (G.2.2.1 0, 200, .inl a)) :: X))) ml_L_271 yf_L_bestSell (As := [.ref (K 7 0)]) rfl rfl ⟨(Nat.le_of_ble_eq_true rfl), (Nat.le_of_ble_eq_true rfl)⟩ ⟨by show _ ≤ 900; omega, by show _ ≤ 5500; omega⟩ hl.1 (Nat.le_of_ble_eq_true rfl) dL_book_375 (fun r_375 _ H locs hp_375 hw => ?_)
              obtain rfl : r_375 = bOrd (U.2 0) false (nF (U.2 0)) := hp_375.trans (q_bb false)
              replace hw : WH G s (cW G K r D ((q17, .inl (G.2.2.1 0, 200, .inl a)) :: X)) H locs := hw
              refine lv_iload_n C.1 C.2.1 dL_book_378 rfl (lv_at hl 4 rfl) ?_
              refine lv_icmp_ne (tgt := 424) C.1 C.2.1 dL_book_379 (by decide) (fun c_379 => absurd (rfl) c_379) (fun c_379 => ?_)
              refine lv_aload_n C.1 C.2.1 dL_book_382 rfl (lv_at hl 7 rfl) ?_
              refine r_hsi C hw (a_spread hF h (K := K) (r := r) (X := ((q17, .inl (G.2.2.1 0, 200, .inl a)) :: X))) ml_L_273 yf_L_spread (As := [.ref (K 7 0)]) rfl rfl ⟨(Nat.le_of_ble_eq_true rfl), (Nat.le_of_ble_eq_true rfl)⟩ ⟨by show _ ≤ 900; omega, by show _ ≤ 5500; omega⟩ hl.1 (Nat.le_of_ble_eq_true rfl) dL_book_383 (fun r_383 _ H locs hp_383 hw => ?_)
              obtain rfl : r_383 = (if spB (U.2 0) = true then spV (U.2 0) else -1300) := hp_383.trans (rfl)
              replace hw : WH G s (cW G K r D ((q17, .inl (G.2.2.1 0, 200, .inl a)) :: X)) H locs := hw
              refine lv_iload C.1 C.2.1 dL_book_386 (lv_at hl 1 rfl) ?_
              refine lv_icmp_ne (tgt := 424) C.1 C.2.1 dL_book_388 (by decide) (fun c_388 => absurd (rfl) c_388) (fun c_388 => ?_)
              refine lv_aload_n C.1 C.2.1 dL_book_391 rfl (lv_at hl 7 rfl) ?_
              refine r_hsi C hw (a_spreadBySums hF h (K := K) (r := r) (X := ((q17, .inl (G.2.2.1 0, 200, .inl a)) :: X))) ml_L_275 yf_L_spreadBySums (As := [.ref (K 7 0)]) rfl rfl ⟨(Nat.le_of_ble_eq_true rfl), (Nat.le_of_ble_eq_true rfl)⟩ ⟨by show _ ≤ 900; omega, by show _ ≤ 5500; omega⟩ hl.1 (Nat.le_of_ble_eq_true rfl) dL_book_392 (fun r_392 _ H locs hp_392 hw => ?_)
              obtain rfl : r_392 = (if spB (U.2 0) = true then spV (U.2 0) else -1300) := hp_392.trans (rfl)
              replace hw : WH G s (cW G K r D.sg ((q17, .inl (G.2.2.1 0, 200, .inl a)) :: X)) H locs := hw
              have h2 : Sm c9 D.sg U := h.su _ _
              refine lv_iload C.1 C.2.1 dL_book_395 (lv_at hl 1 rfl) ?_
              refine lv_icmp_ne (tgt := 424) C.1 C.2.1 dL_book_397 (by decide) (fun c_397 => absurd (rfl) c_397) (fun c_397 => ?_)
              refine lv_aload_n C.1 C.2.1 dL_book_400 rfl (lv_at hl 7 rfl) ?_
              refine d_isPoolOpen C hw h2 ml_L_191 ⟨(Nat.le_of_ble_eq_true rfl), (Nat.le_of_ble_eq_true rfl)⟩ ⟨by show _ ≤ 900; omega, by show _ ≤ 5500; omega⟩ hl.1 (Nat.le_of_ble_eq_true rfl) dL_book_401 (fun H locs hw => ?_)
              refine w_join (σ := Int32) G (pc1 := 425) (fun v5 => v5 = 1) (fun _ => cW G K r D.sg ((q17, .inl (G.2.2.1 0, 200, .inl a)) :: X)) (fun _ => 510 + 2 * 99 + 2 + 1 + 4) (fun _ => 3200 + 12 * 99 + 12 + 6 + 24) (fun _ => [(7, .int (1)), (6, .int ((if spB (U.2 0) = true then spV (U.2 0) else -1300))), (5, .ref q17), (4, .int (bsF (U.2 0) (nF (U.2 0)))), (3, .int (bOrd (U.2 0) false (nF (U.2 0)))), (2, .int (bOrd (U.2 0) true (nF (U.2 0)))), (1, .int (nI (nF (U.2 0)))), (0, .ref (K 7 0))]) (fun v5 => [.int v5]) 11 (fun cont425 => ?_) ?_
              · refine lv_if_ne (tgt := 420) C.1 C.2.1 dL_book_404 (by decide) (fun c_404 => ?_) (fun c_404 => ?_)
                · refine lv_iconst (v := 1) C.1 C.2.1 dL_book_420 (by decide) ?_
                  refine lv_goto (tgt := 425) C.1 C.2.1 dL_book_421 (by decide) ?_
                  exact W.widen (k := 510 + 2 * 99 + 2 + 1 + 4) (n := 3200 + 12 * 99 + 12 + 6 + 24) (by omega) (by omega) (cont425 1 (rfl) _ _ hw _ (lv_sub hl [0, 1, 2, 3, 4, 5, 6, 7] rfl))
                · refine lv_iload C.1 C.2.1 dL_book_407 (lv_at hl 1 rfl) ?_
                  refine lv_sipush (v := -1300) C.1 C.2.1 dL_book_409 (by decide) ?_
                  refine lv_icmp_eq (tgt := 420) C.1 C.2.1 dL_book_412 (by decide) (fun c_412 => ?_) (fun c_412 => ?_)
                  · refine lv_iconst (v := 1) C.1 C.2.1 dL_book_420 (by decide) ?_
                    refine lv_goto (tgt := 425) C.1 C.2.1 dL_book_421 (by decide) ?_
                    exact W.widen (k := 510 + 2 * 99 + 2 + 1 + 4) (n := 3200 + 12 * 99 + 12 + 6 + 24) (by omega) (by omega) (cont425 1 (rfl) _ _ hw _ (lv_sub hl [0, 1, 2, 3, 4, 5, 6, 7] rfl))
                  · refine lv_iload C.1 C.2.1 dL_book_415 (lv_at hl 1 rfl) ?_
                    refine lv_if_le (tgt := 424) C.1 C.2.1 dL_book_417 (by decide) (fun c_417 => absurd c_417 (q_nc hbk hN c_404 c_412)) (fun c_417 => ?_)
                    refine lv_iconst (v := 1) C.1 C.2.1 dL_book_420 (by decide) ?_
                    refine lv_goto (tgt := 425) C.1 C.2.1 dL_book_421 (by decide) ?_
                    exact W.widen (k := 510 + 2 * 99 + 2 + 1 + 4) (n := 3200 + 12 * 99 + 12 + 6 + 24) (by omega) (by omega) (cont425 1 (rfl) _ _ hw _ (lv_sub hl [0, 1, 2, 3, 4, 5, 6, 7] rfl))
              · intro v5 hv5 H locs hw ls hl
                replace hw : WH G s (cW G K r D.sg ((q17, .inl (G.2.2.1 0, 200, .inl a)) :: X)) H locs := hw
                replace hl : lv_has ls 11 [(7, .int (1)), (6, .int ((if spB (U.2 0) = true then spV (U.2 0) else -1300))), (5, .ref q17), (4, .int (bsF (U.2 0) (nF (U.2 0)))), (3, .int (bOrd (U.2 0) false (nF (U.2 0)))), (2, .int (bOrd (U.2 0) true (nF (U.2 0)))), (1, .int (nI (nF (U.2 0)))), (0, .ref (K 7 0))] := hl
                show W p l e _ s m _ below meth c0 H locs (510 + 2 * 99 + 2 + 1 + 4) (3200 + 12 * 99 + 12 + 6 + 24) _ (F0 m 425 ls [.int v5])
                subst hv5
                refine lv_istore (lv' := [(8, .int (1)), (7, .int (1)), (6, .int ((if spB (U.2 0) = true then spV (U.2 0) else -1300))), (5, .ref q17), (4, .int (bsF (U.2 0) (nF (U.2 0)))), (3, .int (bOrd (U.2 0) false (nF (U.2 0)))), (2, .int (bOrd (U.2 0) true (nF (U.2 0)))), (1, .int (nI (nF (U.2 0)))), (0, .ref (K 7 0))]) C.1 C.2.1 dL_book_425 hl (by decide) rfl (fun ls hl => ?_)
                refine lv_iload C.1 C.2.1 dL_book_427 (lv_at hl 0 rfl) ?_
                refine lv_if_eq (tgt := 556) C.1 C.2.1 dL_book_429 (by decide) (fun c_429 => absurd c_429 (by decide)) (fun c_429 => ?_)
                refine lv_aload_n C.1 C.2.1 dL_book_432 rfl (lv_at hl 8 rfl) ?_
                refine lv_iload_n C.1 C.2.1 dL_book_433 rfl (lv_at hl 7 rfl) ?_
                refine r_hsi C hw (a_orderAt hF h2 (nI (nF (U.2 0))) (K := K) (r := r) (X := ((q17, .inl (G.2.2.1 0, 200, .inl a)) :: X))) ml_L_249 yf_L_orderAt (As := [.ref (K 7 0), .int (nI (nF (U.2 0)))]) rfl rfl ⟨(Nat.le_of_ble_eq_true rfl), (Nat.le_of_ble_eq_true rfl)⟩ ⟨by show _ ≤ 900; omega, by show _ ≤ 5500; omega⟩ hl.1 (Nat.le_of_ble_eq_true rfl) dL_book_434 (fun r_434 _ H locs hp_434 hw => ?_)
                obtain rfl : r_434 = (-11) := hp_434.trans (if_neg (by rw [(q_noat hok).1]; decide))
                replace hw : WH G s (cW G K r D.sg ((q17, .inl (G.2.2.1 0, 200, .inl a)) :: X)) H locs := hw
                refine lv_bipush (v := -11) C.1 C.2.1 dL_book_437 (by decide) ?_
                refine lv_icmp_ne (tgt := 556) C.1 C.2.1 dL_book_439 (by decide) (fun c_439 => absurd (rfl) c_439) (fun c_439 => ?_)
                refine lv_aload_n C.1 C.2.1 dL_book_442 rfl (lv_at hl 8 rfl) ?_
                refine lv_iconst (v := -1) C.1 C.2.1 dL_book_443 (by decide) ?_
                refine r_hsi C hw (a_orderAt hF h2 (-1) (K := K) (r := r) (X := ((q17, .inl (G.2.2.1 0, 200, .inl a)) :: X))) ml_L_249 yf_L_orderAt (As := [.ref (K 7 0), .int (-1)]) rfl rfl ⟨(Nat.le_of_ble_eq_true rfl), (Nat.le_of_ble_eq_true rfl)⟩ ⟨by show _ ≤ 900; omega, by show _ ≤ 5500; omega⟩ hl.1 (Nat.le_of_ble_eq_true rfl) dL_book_444 (fun r_444 _ H locs hp_444 hw => ?_)
                obtain rfl : r_444 = (-11) := hp_444.trans (if_neg (by rw [(q_noat hok).2]; decide))
                replace hw : WH G s (cW G K r D.sg ((q17, .inl (G.2.2.1 0, 200, .inl a)) :: X)) H locs := hw
                refine lv_bipush (v := -11) C.1 C.2.1 dL_book_447 (by decide) ?_
                refine lv_icmp_ne (tgt := 556) C.1 C.2.1 dL_book_449 (by decide) (fun c_449 => absurd (rfl) c_449) (fun c_449 => ?_)
                refine lv_aload_n C.1 C.2.1 dL_book_452 rfl (lv_at hl 8 rfl) ?_
                refine lv_sipush (v := 9999) C.1 C.2.1 dL_book_453 (by decide) ?_
                refine r_hsi C hw (a_stallOf hF h2 9999 (K := K) (r := r) (X := ((q17, .inl (G.2.2.1 0, 200, .inl a)) :: X))) ml_L_259 yf_L_stallOf (As := [.ref (K 7 0), .int 9999]) rfl rfl ⟨(Nat.le_of_ble_eq_true rfl), (Nat.le_of_ble_eq_true rfl)⟩ ⟨by show _ ≤ 900; omega, by show _ ≤ 5500; omega⟩ hl.1 (Nat.le_of_ble_eq_true rfl) dL_book_456 (fun r_456 _ H locs hp_456 hw => ?_)
                obtain rfl : r_456 = (-13) := hp_456.trans (if_neg (by rw [(q_note hbk hf2).1]; decide))
                replace hw : WH G s (cW G K r D.sg ((q17, .inl (G.2.2.1 0, 200, .inl a)) :: X)) H locs := hw
                refine lv_bipush (v := -13) C.1 C.2.1 dL_book_459 (by decide) ?_
                refine lv_icmp_ne (tgt := 556) C.1 C.2.1 dL_book_461 (by decide) (fun c_461 => absurd (rfl) c_461) (fun c_461 => ?_)
                refine lv_aload_n C.1 C.2.1 dL_book_464 rfl (lv_at hl 8 rfl) ?_
                refine lv_iconst (v := -1) C.1 C.2.1 dL_book_465 (by decide) ?_
                refine r_hsi C hw (a_isBuying hF h2 (-1) (K := K) (r := r) (X := ((q17, .inl (G.2.2.1 0, 200, .inl a)) :: X))) ml_L_251 yf_L_isBuying (As := [.ref (K 7 0), .int (-1)]) rfl rfl ⟨(Nat.le_of_ble_eq_true rfl), (Nat.le_of_ble_eq_true rfl)⟩ ⟨by show _ ≤ 900; omega, by show _ ≤ 5500; omega⟩ hl.1 (Nat.le_of_ble_eq_true rfl) dL_book_466 (fun r_466 _ H locs hp_466 hw => ?_)
                obtain rfl : r_466 = (-13) := hp_466.trans (if_neg (by rw [(q_note hbk hf2).2]; decide))
                replace hw : WH G s (cW G K r D.sg ((q17, .inl (G.2.2.1 0, 200, .inl a)) :: X)) H locs := hw
                refine lv_bipush (v := -13) C.1 C.2.1 dL_book_469 (by decide) ?_
                refine lv_icmp_ne (tgt := 556) C.1 C.2.1 dL_book_471 (by decide) (fun c_471 => absurd (rfl) c_471) (fun c_471 => ?_)
                refine lv_aload_n C.1 C.2.1 dL_book_474 rfl (lv_at hl 8 rfl) ?_
                refine lv_sipush (v := 9999) C.1 C.2.1 dL_book_475 (by decide) ?_
                refine r_hsi C hw (a_priceOf hF h2 9999 (K := K) (r := r) (X := ((q17, .inl (G.2.2.1 0, 200, .inl a)) :: X))) ml_L_253 yf_L_priceOf (As := [.ref (K 7 0), .int 9999]) rfl rfl ⟨(Nat.le_of_ble_eq_true rfl), (Nat.le_of_ble_eq_true rfl)⟩ ⟨by show _ ≤ 900; omega, by show _ ≤ 5500; omega⟩ hl.1 (Nat.le_of_ble_eq_true rfl) dL_book_478 (fun r_478 _ H locs hp_478 hw => ?_)
                obtain rfl : r_478 = (-13) := hp_478.trans (if_neg (by rw [(q_note hbk hf2).1]; decide))
                replace hw : WH G s (cW G K r D.sg ((q17, .inl (G.2.2.1 0, 200, .inl a)) :: X)) H locs := hw
                refine lv_bipush (v := -13) C.1 C.2.1 dL_book_481 (by decide) ?_
                refine lv_icmp_ne (tgt := 556) C.1 C.2.1 dL_book_483 (by decide) (fun c_483 => absurd (rfl) c_483) (fun c_483 => ?_)
                refine lv_aload_n C.1 C.2.1 dL_book_486 rfl (lv_at hl 8 rfl) ?_
                refine lv_sipush (v := 9999) C.1 C.2.1 dL_book_487 (by decide) ?_
                refine r_hsi C hw (a_quantityOf hF h2 9999 (K := K) (r := r) (X := ((q17, .inl (G.2.2.1 0, 200, .inl a)) :: X))) ml_L_255 yf_L_quantityOf (As := [.ref (K 7 0), .int 9999]) rfl rfl ⟨(Nat.le_of_ble_eq_true rfl), (Nat.le_of_ble_eq_true rfl)⟩ ⟨by show _ ≤ 900; omega, by show _ ≤ 5500; omega⟩ hl.1 (Nat.le_of_ble_eq_true rfl) dL_book_490 (fun r_490 _ H locs hp_490 hw => ?_)
                obtain rfl : r_490 = (-13) := hp_490.trans (if_neg (by rw [(q_note hbk hf2).1]; decide))
                replace hw : WH G s (cW G K r D.sg ((q17, .inl (G.2.2.1 0, 200, .inl a)) :: X)) H locs := hw
                refine lv_bipush (v := -13) C.1 C.2.1 dL_book_493 (by decide) ?_
                refine lv_icmp_ne (tgt := 556) C.1 C.2.1 dL_book_495 (by decide) (fun c_495 => absurd (rfl) c_495) (fun c_495 => ?_)
                refine lv_aload_n C.1 C.2.1 dL_book_498 rfl (lv_at hl 8 rfl) ?_
                refine lv_sipush (v := 9999) C.1 C.2.1 dL_book_499 (by decide) ?_
                refine r_hsi C hw (a_minutesLeft hF h2 hc 9999 (K := K) (r := r) (X := ((q17, .inl (G.2.2.1 0, 200, .inl a)) :: X))) ml_L_257 yf_L_minutesLeft (As := [.ref (K 7 0), .int 9999]) rfl rfl ⟨(Nat.le_of_ble_eq_true rfl), (Nat.le_of_ble_eq_true rfl)⟩ ⟨by show _ ≤ 900; omega, by show _ ≤ 5500; omega⟩ hl.1 (Nat.le_of_ble_eq_true rfl) dL_book_502 (fun r_502 _ H locs hp_502 hw => ?_)
                obtain rfl : r_502 = (-13) := hp_502.trans (q_nomi hbk hf2)
                replace hw : WH G s (cW G K r D.sg ((q17, .inl (G.2.2.1 0, 200, .inl a)) :: X)) H locs := hw
                refine lv_bipush (v := -13) C.1 C.2.1 dL_book_505 (by decide) ?_
                refine lv_icmp_ne (tgt := 556) C.1 C.2.1 dL_book_507 (by decide) (fun c_507 => absurd (rfl) c_507) (fun c_507 => ?_)
                refine lv_aload_n C.1 C.2.1 dL_book_510 rfl (lv_at hl 8 rfl) ?_
                refine lv_iconst (v := 0) C.1 C.2.1 dL_book_511 (by decide) ?_
                refine r_hsi C hw (a_buyingAt hF h2 0 (K := K) (r := r) (X := ((q17, .inl (G.2.2.1 0, 200, .inl a)) :: X))) ml_L_261 yf_L_buyingAt (As := [.ref (K 7 0), .int 0]) rfl rfl ⟨(Nat.le_of_ble_eq_true rfl), (Nat.le_of_ble_eq_true rfl)⟩ ⟨by show _ ≤ 900; omega, by show _ ≤ 5500; omega⟩ hl.1 (Nat.le_of_ble_eq_true rfl) dL_book_512 (fun r_512 _ H locs hp_512 hw => ?_)
                obtain rfl : r_512 = (-12) := hp_512.trans (if_neg (by decide))
                replace hw : WH G s (cW G K r D.sg ((q17, .inl (G.2.2.1 0, 200, .inl a)) :: X)) H locs := hw
                refine lv_bipush (v := -12) C.1 C.2.1 dL_book_515 (by decide) ?_
                refine lv_icmp_ne (tgt := 556) C.1 C.2.1 dL_book_517 (by decide) (fun c_517 => absurd (rfl) c_517) (fun c_517 => ?_)
                refine lv_aload_n C.1 C.2.1 dL_book_520 rfl (lv_at hl 8 rfl) ?_
                refine lv_bipush (v := 100) C.1 C.2.1 dL_book_521 (by decide) ?_
                refine r_hsi C hw (a_buyingAt hF h2 100 (K := K) (r := r) (X := ((q17, .inl (G.2.2.1 0, 200, .inl a)) :: X))) ml_L_261 yf_L_buyingAt (As := [.ref (K 7 0), .int 100]) rfl rfl ⟨(Nat.le_of_ble_eq_true rfl), (Nat.le_of_ble_eq_true rfl)⟩ ⟨by show _ ≤ 900; omega, by show _ ≤ 5500; omega⟩ hl.1 (Nat.le_of_ble_eq_true rfl) dL_book_523 (fun r_523 _ H locs hp_523 hw => ?_)
                obtain rfl : r_523 = (-12) := hp_523.trans (if_neg (by decide))
                replace hw : WH G s (cW G K r D.sg ((q17, .inl (G.2.2.1 0, 200, .inl a)) :: X)) H locs := hw
                refine lv_bipush (v := -12) C.1 C.2.1 dL_book_526 (by decide) ?_
                refine lv_icmp_ne (tgt := 556) C.1 C.2.1 dL_book_528 (by decide) (fun c_528 => absurd (rfl) c_528) (fun c_528 => ?_)
                refine lv_aload_n C.1 C.2.1 dL_book_531 rfl (lv_at hl 8 rfl) ?_
                refine lv_iconst (v := 0) C.1 C.2.1 dL_book_532 (by decide) ?_
                refine r_hsi C hw (a_sellingAt hF h2 0 (K := K) (r := r) (X := ((q17, .inl (G.2.2.1 0, 200, .inl a)) :: X))) ml_L_263 yf_L_sellingAt (As := [.ref (K 7 0), .int 0]) rfl rfl ⟨(Nat.le_of_ble_eq_true rfl), (Nat.le_of_ble_eq_true rfl)⟩ ⟨by show _ ≤ 900; omega, by show _ ≤ 5500; omega⟩ hl.1 (Nat.le_of_ble_eq_true rfl) dL_book_533 (fun r_533 _ H locs hp_533 hw => ?_)
                obtain rfl : r_533 = (-12) := hp_533.trans (if_neg (by decide))
                replace hw : WH G s (cW G K r D.sg ((q17, .inl (G.2.2.1 0, 200, .inl a)) :: X)) H locs := hw
                refine lv_bipush (v := -12) C.1 C.2.1 dL_book_536 (by decide) ?_
                refine lv_icmp_ne (tgt := 556) C.1 C.2.1 dL_book_538 (by decide) (fun c_538 => absurd (rfl) c_538) (fun c_538 => ?_)
                refine lv_aload_n C.1 C.2.1 dL_book_541 rfl (lv_at hl 8 rfl) ?_
                refine lv_bipush (v := 100) C.1 C.2.1 dL_book_542 (by decide) ?_
                refine r_hsi C hw (a_sellingAt hF h2 100 (K := K) (r := r) (X := ((q17, .inl (G.2.2.1 0, 200, .inl a)) :: X))) ml_L_263 yf_L_sellingAt (As := [.ref (K 7 0), .int 100]) rfl rfl ⟨(Nat.le_of_ble_eq_true rfl), (Nat.le_of_ble_eq_true rfl)⟩ ⟨by show _ ≤ 900; omega, by show _ ≤ 5500; omega⟩ hl.1 (Nat.le_of_ble_eq_true rfl) dL_book_544 (fun r_544 _ H locs hp_544 hw => ?_)
                obtain rfl : r_544 = (-12) := hp_544.trans (if_neg (by decide))
                replace hw : WH G s (cW G K r D.sg ((q17, .inl (G.2.2.1 0, 200, .inl a)) :: X)) H locs := hw
                refine lv_bipush (v := -12) C.1 C.2.1 dL_book_547 (by decide) ?_
                refine lv_icmp_ne (tgt := 556) C.1 C.2.1 dL_book_549 (by decide) (fun c_549 => absurd (rfl) c_549) (fun c_549 => ?_)
                refine lv_iconst (v := 1) C.1 C.2.1 dL_book_552 (by decide) ?_
                refine lv_goto (tgt := 557) C.1 C.2.1 dL_book_553 (by decide) ?_
                replace hw : WH G s (cW G K r D.sg X) H locs := ((hw.perm (cw_in G K r D.sg _ X)).fewer (List.Sublist.cons _ (List.Sublist.refl _)))
                exact r_iret C hw rfl rfl D.sg (⟨rfl, rfl, h2⟩) rfl (by show _ ≤ 900; omega) (by show _ ≤ 5500; omega) dL_book_557
        · have hy : y < 99 := by rw [i_le, i_nI (by omega), show (100 : Int32).toInt = 100 by decide] at c_261; omega
          refine lv_aload_n C.1 C.2.1 dL_book_264 rfl (lv_at hl 6 rfl) ?_
          refine lv_iload C.1 C.2.1 dL_book_265 (lv_at hl 0 rfl) ?_
          refine r_hsi C hw (a_buyingAt hF h (nI (y + 1)) (K := K) (r := r) (X := ((q17, .inl (G.2.2.1 0, 200, .inl a)) :: X))) ml_L_261 yf_L_buyingAt (As := [.ref (K 7 0), .int (nI (y + 1))]) rfl rfl ⟨(Nat.le_of_ble_eq_true rfl), (Nat.le_of_ble_eq_true rfl)⟩ ⟨by show _ ≤ 900; omega, by show _ ≤ 5500; omega⟩ hl.1 (Nat.le_of_ble_eq_true rfl) dL_book_267 (fun r_267 _ H locs hp_267 hw => ?_)
          obtain rfl : r_267 = smF (U.2 0) true (nI (y + 1)) (nI (y + 1)) (nF (U.2 0)) := hp_267.trans (if_pos (q_pr (by omega)))
          replace hw : WH G s (cW G K r D ((q17, .inl (G.2.2.1 0, 200, .inl a)) :: X)) H locs := hw
          refine lv_aload C.1 C.2.1 dL_book_270 (lv_at hl 1 rfl) ?_
          refine lv_iload C.1 C.2.1 dL_book_272 (lv_at hl 0 rfl) ?_
          refine lx_iald C hw (i := (y + 1)) (by omega) (by omega) dL_book_274 ?_
          refine lv_icmp_ne (tgt := 295) C.1 C.2.1 dL_book_275 (by decide) (fun c_275 => absurd (by rw [ha (y + 1) (by omega)]; unfold sumA; rw [if_pos (show y + 1 < 100 by omega)]) c_275) (fun c_275 => ?_)
          refine lv_aload_n C.1 C.2.1 dL_book_278 rfl (lv_at hl 6 rfl) ?_
          refine lv_iload C.1 C.2.1 dL_book_279 (lv_at hl 0 rfl) ?_
          refine r_hsi C hw (a_sellingAt hF h (nI (y + 1)) (K := K) (r := r) (X := ((q17, .inl (G.2.2.1 0, 200, .inl a)) :: X))) ml_L_263 yf_L_sellingAt (As := [.ref (K 7 0), .int (nI (y + 1))]) rfl rfl ⟨(Nat.le_of_ble_eq_true rfl), (Nat.le_of_ble_eq_true rfl)⟩ ⟨by show _ ≤ 900; omega, by show _ ≤ 5500; omega⟩ hl.1 (Nat.le_of_ble_eq_true rfl) dL_book_281 (fun r_281 _ H locs hp_281 hw => ?_)
          obtain rfl : r_281 = smF (U.2 0) false (nI (y + 1)) (nI (y + 1)) (nF (U.2 0)) := hp_281.trans (if_pos (q_pr (by omega)))
          replace hw : WH G s (cW G K r D ((q17, .inl (G.2.2.1 0, 200, .inl a)) :: X)) H locs := hw
          refine lv_aload C.1 C.2.1 dL_book_284 (lv_at hl 1 rfl) ?_
          refine lv_bipush (v := 100) C.1 C.2.1 dL_book_286 (by decide) ?_
          refine lv_iload C.1 C.2.1 dL_book_288 (lv_at hl 0 rfl) ?_
          refine lv_iadd C.1 C.2.1 dL_book_290 ?_
          refine r_toe (show _ = nI (100 + (y + 1)) from nI_add 100 (y + 1)) ?_
          refine lx_iald C hw (i := (100 + (y + 1))) (by omega) (by omega) dL_book_291 ?_
          refine lv_icmp_eq (tgt := 297) C.1 C.2.1 dL_book_292 (by decide) (fun c_292 => ?_) (fun c_292 => absurd (by rw [ha (100 + (y + 1)) (by omega)]; unfold sumA; rw [if_neg (show ¬ 100 + (y + 1) < 100 by omega), Nat.add_sub_cancel_left]) c_292)
          refine lv_iinc (v := nI (y + 1 + 1)) (lv' := [(6, .int (nI (y + 1 + 1))), (5, .ref q17), (4, .int (bsF (U.2 0) (nF (U.2 0)))), (3, .int (bOrd (U.2 0) false (nF (U.2 0)))), (2, .int (bOrd (U.2 0) true (nF (U.2 0)))), (1, .int (nI (nF (U.2 0)))), (0, .ref (K 7 0))]) C.1 C.2.1 dL_book_297 hl (k := 0) rfl (nI_add (y + 1) 1) (by decide) rfl (fun ls hl => ?_)
          refine lv_goto (tgt := 257) C.1 C.2.1 dL_book_300 (by decide) ?_
          exact W.widen (k := 510 + 2 * (y + 1)) (n := 3200 + 12 * (y + 1)) (by omega) (by omega) (ih257 (y + 1) (by omega) _ _ hw _ (lv_sub hl [0, 1, 2, 3, 4, 5, 6] rfl))
      · rintro y hy9; omega
    · have hk : k < nF (U.2 0) := by rw [nI_leI (by omega) (by omega)] at c_27; omega
      refine lv_aload_n C.1 C.2.1 dL_book_30 rfl (lv_at hl 6 rfl) ?_
      refine lv_iload C.1 C.2.1 dL_book_31 (lv_at hl 0 rfl) ?_
      refine r_hsi C hw (a_orderAt hF h (nI k) (K := K) (r := r) (X := ((q17, .inl (G.2.2.1 0, 200, .inl a)) :: X))) ml_L_249 yf_L_orderAt (As := [.ref (K 7 0), .int (nI k)]) rfl rfl ⟨(Nat.le_of_ble_eq_true rfl), (Nat.le_of_ble_eq_true rfl)⟩ ⟨by show _ ≤ 900; omega, by show _ ≤ 5500; omega⟩ hl.1 (Nat.le_of_ble_eq_true rfl) dL_book_33 (fun r_33 _ H locs hp_33 hw => ?_)
      obtain rfl : r_33 = oF (U.2 0) k 0 := hp_33.trans (q_oa hok hk _)
      replace hw : WH G s (cW G K r D ((q17, .inl (G.2.2.1 0, 200, .inl a)) :: X)) H locs := hw
      refine lv_istore (lv' := [(7, .int (oF (U.2 0) k 0)), (6, .int (nI k)), (5, .ref q17), (4, .int (bsF (U.2 0) k)), (3, .int (bOrd (U.2 0) false k)), (2, .int (bOrd (U.2 0) true k)), (1, .int (nI (nF (U.2 0)))), (0, .ref (K 7 0))]) C.1 C.2.1 dL_book_36 hl (by decide) rfl (fun ls hl => ?_)
      refine lv_aload_n C.1 C.2.1 dL_book_38 rfl (lv_at hl 7 rfl) ?_
      refine lv_iload C.1 C.2.1 dL_book_39 (lv_at hl 0 rfl) ?_
      refine r_hsi C hw (a_isBuying hF h (oF (U.2 0) k 0) (K := K) (r := r) (X := ((q17, .inl (G.2.2.1 0, 200, .inl a)) :: X))) ml_L_251 yf_L_isBuying (As := [.ref (K 7 0), .int (oF (U.2 0) k 0)]) rfl rfl ⟨(Nat.le_of_ble_eq_true rfl), (Nat.le_of_ble_eq_true rfl)⟩ ⟨by show _ ≤ 900; omega, by show _ ≤ 5500; omega⟩ hl.1 (Nat.le_of_ble_eq_true rfl) dL_book_41 (fun r_41 _ H locs hp_41 hw => ?_)
      obtain rfl : r_41 = bI (byF (U.2 0) k) := hp_41.trans (by rw [if_pos (q_te hbk hk).1, (q_te hbk hk).2]; rfl)
      replace hw : WH G s (cW G K r D ((q17, .inl (G.2.2.1 0, 200, .inl a)) :: X)) H locs := hw
      obtain ⟨z, hz1, hz2, hz3⟩ := q_pz hbk hk
      rcases hb9 : byF (U.2 0) k with _ | _
      · have hb : byF (U.2 0) k = false := hb9
        refine r_toe (show _ = 0 from rfl) ?_
        refine lv_iconst (v := 1) C.1 C.2.1 dL_book_44 (by decide) ?_
        refine lv_icmp_ne (tgt := 52) C.1 C.2.1 dL_book_45 (by decide) (fun c_45 => ?_) (fun c_45 => absurd c_45 (by decide))
        refine lv_iconst (v := 0) C.1 C.2.1 dL_book_52 (by decide) ?_
        refine lv_istore (lv' := [(8, .int 0), (7, .int (oF (U.2 0) k 0)), (6, .int (nI k)), (5, .ref q17), (4, .int (bsF (U.2 0) k)), (3, .int (bOrd (U.2 0) false k)), (2, .int (bOrd (U.2 0) true k)), (1, .int (nI (nF (U.2 0)))), (0, .ref (K 7 0))]) C.1 C.2.1 dL_book_53 hl (by decide) rfl (fun ls hl => ?_)
        refine lv_aload_n C.1 C.2.1 dL_book_55 rfl (lv_at hl 8 rfl) ?_
        refine lv_iload C.1 C.2.1 dL_book_56 (lv_at hl 1 rfl) ?_
        refine r_hsi C hw (a_priceOf hF h (oF (U.2 0) k 0) (K := K) (r := r) (X := ((q17, .inl (G.2.2.1 0, 200, .inl a)) :: X))) ml_L_253 yf_L_priceOf (As := [.ref (K 7 0), .int (oF (U.2 0) k 0)]) rfl rfl ⟨(Nat.le_of_ble_eq_true rfl), (Nat.le_of_ble_eq_true rfl)⟩ ⟨by show _ ≤ 900; omega, by show _ ≤ 5500; omega⟩ hl.1 (Nat.le_of_ble_eq_true rfl) dL_book_58 (fun r_58 _ H locs hp_58 hw => ?_)
        obtain rfl : r_58 = oF (U.2 0) k 3 := hp_58.trans (q_ov hbk hk 3 _)
        replace hw : WH G s (cW G K r D ((q17, .inl (G.2.2.1 0, 200, .inl a)) :: X)) H locs := hw
        refine lv_istore (lv' := [(9, .int (oF (U.2 0) k 3)), (8, .int 0), (7, .int (oF (U.2 0) k 0)), (6, .int (nI k)), (5, .ref q17), (4, .int (bsF (U.2 0) k)), (3, .int (bOrd (U.2 0) false k)), (2, .int (bOrd (U.2 0) true k)), (1, .int (nI (nF (U.2 0)))), (0, .ref (K 7 0))]) C.1 C.2.1 dL_book_61 hl (by decide) rfl (fun ls hl => ?_)
        refine lv_iload C.1 C.2.1 dL_book_63 (lv_at hl 5 rfl) ?_
        refine lv_iload C.1 C.2.1 dL_book_65 (lv_at hl 1 rfl) ?_
        refine lv_if_eq (tgt := 74) C.1 C.2.1 dL_book_67 (by decide) (fun c_67 => ?_) (fun c_67 => absurd (rfl) c_67)
        refine lv_iconst (v := 0) C.1 C.2.1 dL_book_74 (by decide) ?_
        refine lv_iadd C.1 C.2.1 dL_book_75 ?_
        refine r_toe (show _ = bsF (U.2 0) (k + 1) from by show bsF (U.2 0) k + 0 = bsF (U.2 0) k + oF (U.2 0) k 2; rw [q_by hbk hk, hb]; rfl) ?_
        refine lv_istore (lv' := [(4, .int (bsF (U.2 0) (k + 1))), (9, .int (oF (U.2 0) k 3)), (8, .int 0), (7, .int (oF (U.2 0) k 0)), (6, .int (nI k)), (5, .ref q17), (3, .int (bOrd (U.2 0) false k)), (2, .int (bOrd (U.2 0) true k)), (1, .int (nI (nF (U.2 0)))), (0, .ref (K 7 0))]) C.1 C.2.1 dL_book_76 hl (by decide) rfl (fun ls hl => ?_)
        refine lv_aload C.1 C.2.1 dL_book_78 (lv_at hl 5 rfl) ?_
        refine lv_iload C.1 C.2.1 dL_book_80 (lv_at hl 2 rfl) ?_
        refine lv_if_eq (tgt := 90) C.1 C.2.1 dL_book_82 (by decide) (fun c_82 => ?_) (fun c_82 => absurd (rfl) c_82)
        refine lv_bipush (v := 100) C.1 C.2.1 dL_book_90 (by decide) ?_
        refine lv_iload C.1 C.2.1 dL_book_92 (lv_at hl 1 rfl) ?_
        refine lv_iadd C.1 C.2.1 dL_book_94 ?_
        refine r_toe (show _ = nI (100 + z) from by rw [hz3]; exact nI_add 100 z) ?_
        refine lv_dup2_11 C.1 C.2.1 dL_book_95 rfl rfl ?_
        refine lx_iald C hw (i := (100 + z)) (by omega) (by omega) dL_book_96 ?_
        refine lv_aload_n C.1 C.2.1 dL_book_97 rfl (lv_at hl 9 rfl) ?_
        refine lv_iload C.1 C.2.1 dL_book_98 (lv_at hl 3 rfl) ?_
        refine r_hsi C hw (a_quantityOf hF h (oF (U.2 0) k 0) (K := K) (r := r) (X := ((q17, .inl (G.2.2.1 0, 200, .inl a)) :: X))) ml_L_255 yf_L_quantityOf (As := [.ref (K 7 0), .int (oF (U.2 0) k 0)]) rfl rfl ⟨(Nat.le_of_ble_eq_true rfl), (Nat.le_of_ble_eq_true rfl)⟩ ⟨by show _ ≤ 900; omega, by show _ ≤ 5500; omega⟩ hl.1 (Nat.le_of_ble_eq_true rfl) dL_book_100 (fun r_100 _ H locs hp_100 hw => ?_)
        obtain rfl : r_100 = oF (U.2 0) k 4 := hp_100.trans (q_ov hbk hk 4 _)
        replace hw : WH G s (cW G K r D ((q17, .inl (G.2.2.1 0, 200, .inl a)) :: X)) H locs := hw
        refine lv_iadd C.1 C.2.1 dL_book_103 ?_
        refine lx_iast C hw (i := (100 + z)) (by omega) (by omega) dL_book_104 (fun H locs hw => ?_)
        replace hw : WH G s (cW G K r D ((q17, .inl (G.2.2.1 0, 200, .inl (upd a (100 + z) ((a (100 + z)) + (oF (U.2 0) k 4))))) :: X)) H locs := hw
        refine lv_iload C.1 C.2.1 dL_book_105 (lv_at hl 2 rfl) ?_
        refine w_join (σ := Int32) G (pc1 := 130) (fun v1 => v1 = bOrd (U.2 0) true (k + 1)) (fun _ => cW G K r D ((q17, .inl (G.2.2.1 0, 200, .inl (upd a (100 + z) ((a (100 + z)) + (oF (U.2 0) k 4))))) :: X)) (fun _ => 10 + 24 * k + 4 + 1) (fun _ => 300 + 144 * k + 24 + 6) (fun _ => [(4, .int (bsF (U.2 0) (k + 1))), (9, .int (oF (U.2 0) k 3)), (8, .int 0), (7, .int (oF (U.2 0) k 0)), (6, .int (nI k)), (5, .ref q17), (3, .int (bOrd (U.2 0) false k)), (2, .int (bOrd (U.2 0) true k)), (1, .int (nI (nF (U.2 0)))), (0, .ref (K 7 0))]) (fun v1 => [.int v1]) 11 (fun cont130 => ?_) ?_
        · refine lv_if_eq (tgt := 129) C.1 C.2.1 dL_book_107 (by decide) (fun c_107 => ?_) (fun c_107 => absurd (rfl) c_107)
          refine lv_iload_n C.1 C.2.1 dL_book_129 rfl (lv_at hl 7 rfl) ?_
          exact W.widen (k := 10 + 24 * k + 4 + 1) (n := 300 + 144 * k + 24 + 6) (by omega) (by omega) (cont130 (bOrd (U.2 0) true k) (bO_no (by rw [hb]; decide)) _ _ hw _ (lv_sub hl [0, 1, 2, 3, 4, 5, 6, 7, 8, 9] rfl))
        · intro v1 hv1 H locs hw ls hl
          replace hw : WH G s (cW G K r D ((q17, .inl (G.2.2.1 0, 200, .inl (upd a (100 + z) ((a (100 + z)) + (oF (U.2 0) k 4))))) :: X)) H locs := hw
          replace hl : lv_has ls 11 [(4, .int (bsF (U.2 0) (k + 1))), (9, .int (oF (U.2 0) k 3)), (8, .int 0), (7, .int (oF (U.2 0) k 0)), (6, .int (nI k)), (5, .ref q17), (3, .int (bOrd (U.2 0) false k)), (2, .int (bOrd (U.2 0) true k)), (1, .int (nI (nF (U.2 0)))), (0, .ref (K 7 0))] := hl
          show W p l e _ s m _ below meth c0 H locs (10 + 24 * k + 4 + 1) (300 + 144 * k + 24 + 6) _ (F0 m 130 ls [.int v1])
          subst hv1
          refine lv_istore_n (lv' := [(2, .int (bOrd (U.2 0) true (k + 1))), (4, .int (bsF (U.2 0) (k + 1))), (9, .int (oF (U.2 0) k 3)), (8, .int 0), (7, .int (oF (U.2 0) k 0)), (6, .int (nI k)), (5, .ref q17), (3, .int (bOrd (U.2 0) false k)), (1, .int (nI (nF (U.2 0)))), (0, .ref (K 7 0))]) C.1 C.2.1 dL_book_130 rfl hl (by decide) rfl (fun ls hl => ?_)
          refine lv_iload C.1 C.2.1 dL_book_131 (lv_at hl 3 rfl) ?_
          refine w_join (σ := Int32) G (pc1 := 156) (fun v2 => v2 = bOrd (U.2 0) false (k + 1)) (fun _ => cW G K r D ((q17, .inl (G.2.2.1 0, 200, .inl (upd a (100 + z) ((a (100 + z)) + (oF (U.2 0) k 4))))) :: X)) (fun _ => 10 + 24 * k + 4 + 1 + 1) (fun _ => 300 + 144 * k + 24 + 6 + 6) (fun _ => [(2, .int (bOrd (U.2 0) true (k + 1))), (4, .int (bsF (U.2 0) (k + 1))), (9, .int (oF (U.2 0) k 3)), (8, .int 0), (7, .int (oF (U.2 0) k 0)), (6, .int (nI k)), (5, .ref q17), (3, .int (bOrd (U.2 0) false k)), (1, .int (nI (nF (U.2 0)))), (0, .ref (K 7 0))]) (fun v2 => [.int v2]) 11 (fun cont156 => ?_) ?_
          · refine lv_if_ne (tgt := 155) C.1 C.2.1 dL_book_133 (by decide) (fun c_133 => absurd (rfl) c_133) (fun c_133 => ?_)
            refine lv_iload_n C.1 C.2.1 dL_book_136 rfl (lv_at hl 7 rfl) ?_
            refine lv_if_lt (tgt := 150) C.1 C.2.1 dL_book_137 (by decide) (fun c_137 => ?_) (fun c_137 => ?_)
            · refine lv_iload C.1 C.2.1 dL_book_150 (lv_at hl 4 rfl) ?_
              refine lv_goto (tgt := 156) C.1 C.2.1 dL_book_152 (by decide) ?_
              exact W.widen (k := 10 + 24 * k + 4 + 1 + 1) (n := 300 + 144 * k + 24 + 6 + 6) (by omega) (by omega) (cont156 (oF (U.2 0) k 0) ((bO_new hbk hk hb).1 c_137) _ _ hw _ (lv_sub hl [0, 1, 2, 3, 4, 5, 6, 7, 8, 9] rfl))
            · obtain ⟨j2, hj2, hm2, ej2⟩ := bO_ge c_137
              refine lv_iload C.1 C.2.1 dL_book_140 (lv_at hl 2 rfl) ?_
              refine lv_aload_n C.1 C.2.1 dL_book_142 rfl (lv_at hl 9 rfl) ?_
              refine lv_iload_n C.1 C.2.1 dL_book_143 rfl (lv_at hl 7 rfl) ?_
              refine r_hsi C hw (a_priceOf hF h (bOrd (U.2 0) false k) (K := K) (r := r) (X := ((q17, .inl (G.2.2.1 0, 200, .inl (upd a (100 + z) ((a (100 + z)) + (oF (U.2 0) k 4))))) :: X))) ml_L_253 yf_L_priceOf (As := [.ref (K 7 0), .int (bOrd (U.2 0) false k)]) rfl rfl ⟨(Nat.le_of_ble_eq_true rfl), (Nat.le_of_ble_eq_true rfl)⟩ ⟨by show _ ≤ 900; omega, by show _ ≤ 5500; omega⟩ hl.1 (Nat.le_of_ble_eq_true rfl) dL_book_144 (fun r_144 _ H locs hp_144 hw => ?_)
              obtain rfl : r_144 = oF (U.2 0) j2 3 := hp_144.trans (by rw [ej2]; exact q_ov hbk (by omega) 3 _)
              replace hw : WH G s (cW G K r D ((q17, .inl (G.2.2.1 0, 200, .inl (upd a (100 + z) ((a (100 + z)) + (oF (U.2 0) k 4))))) :: X)) H locs := hw
              refine lv_icmp_ge (tgt := 155) C.1 C.2.1 dL_book_147 (by decide) (fun c_147 => ?_) (fun c_147 => ?_)
              · refine lv_iload_n C.1 C.2.1 dL_book_155 rfl (lv_at hl 7 rfl) ?_
                exact W.widen (k := 10 + 24 * k + 4 + 1 + 1) (n := 300 + 144 * k + 24 + 6 + 6) (by omega) (by omega) (cont156 (bOrd (U.2 0) false k) (((bO_new hbk hk hb).2 j2 hj2 hm2).1 ((md_t hbk hk (by omega)).2.mpr c_147)) _ _ hw _ (lv_sub hl [0, 1, 2, 3, 4, 5, 6, 7, 8, 9] rfl))
              · refine lv_iload C.1 C.2.1 dL_book_150 (lv_at hl 4 rfl) ?_
                refine lv_goto (tgt := 156) C.1 C.2.1 dL_book_152 (by decide) ?_
                exact W.widen (k := 10 + 24 * k + 4 + 1 + 1) (n := 300 + 144 * k + 24 + 6 + 6) (by omega) (by omega) (cont156 (oF (U.2 0) k 0) (((bO_new hbk hk hb).2 j2 hj2 hm2).2 (fun q9 => c_147 ((md_t hbk hk (by omega)).2.mp q9))) _ _ hw _ (lv_sub hl [0, 1, 2, 3, 4, 5, 6, 7, 8, 9] rfl))
          · intro v2 hv2 H locs hw ls hl
            replace hw : WH G s (cW G K r D ((q17, .inl (G.2.2.1 0, 200, .inl (upd a (100 + z) ((a (100 + z)) + (oF (U.2 0) k 4))))) :: X)) H locs := hw
            replace hl : lv_has ls 11 [(2, .int (bOrd (U.2 0) true (k + 1))), (4, .int (bsF (U.2 0) (k + 1))), (9, .int (oF (U.2 0) k 3)), (8, .int 0), (7, .int (oF (U.2 0) k 0)), (6, .int (nI k)), (5, .ref q17), (3, .int (bOrd (U.2 0) false k)), (1, .int (nI (nF (U.2 0)))), (0, .ref (K 7 0))] := hl
            show W p l e _ s m _ below meth c0 H locs (10 + 24 * k + 4 + 1 + 1) (300 + 144 * k + 24 + 6 + 6) _ (F0 m 156 ls [.int v2])
            subst hv2
            refine lv_istore_n (lv' := [(3, .int (bOrd (U.2 0) false (k + 1))), (2, .int (bOrd (U.2 0) true (k + 1))), (4, .int (bsF (U.2 0) (k + 1))), (9, .int (oF (U.2 0) k 3)), (8, .int 0), (7, .int (oF (U.2 0) k 0)), (6, .int (nI k)), (5, .ref q17), (1, .int (nI (nF (U.2 0)))), (0, .ref (K 7 0))]) C.1 C.2.1 dL_book_156 rfl hl (by decide) rfl (fun ls hl => ?_)
            refine lv_aload_n C.1 C.2.1 dL_book_157 rfl (lv_at hl 9 rfl) ?_
            refine lv_iload C.1 C.2.1 dL_book_158 (lv_at hl 5 rfl) ?_
            refine r_hsi C hw (a_minutesLeft hF h hc (oF (U.2 0) k 0) (K := K) (r := r) (X := ((q17, .inl (G.2.2.1 0, 200, .inl (upd a (100 + z) ((a (100 + z)) + (oF (U.2 0) k 4))))) :: X))) ml_L_257 yf_L_minutesLeft (As := [.ref (K 7 0), .int (oF (U.2 0) k 0)]) rfl rfl ⟨(Nat.le_of_ble_eq_true rfl), (Nat.le_of_ble_eq_true rfl)⟩ ⟨by show _ ≤ 900; omega, by show _ ≤ 5500; omega⟩ hl.1 (Nat.le_of_ble_eq_true rfl) dL_book_160 (fun r_160 _ H locs hp_160 hw => ?_)
            obtain rfl : r_160 = (if oF (U.2 0) k 5 = 0 then -14 else oF (U.2 0) k 5) := hp_160.trans (q_mi hbk hk)
            replace hw : WH G s (cW G K r D ((q17, .inl (G.2.2.1 0, 200, .inl (upd a (100 + z) ((a (100 + z)) + (oF (U.2 0) k 4))))) :: X)) H locs := hw
            refine lv_istore (lv' := [(10, .int (if oF (U.2 0) k 5 = 0 then -14 else oF (U.2 0) k 5)), (3, .int (bOrd (U.2 0) false (k + 1))), (2, .int (bOrd (U.2 0) true (k + 1))), (4, .int (bsF (U.2 0) (k + 1))), (9, .int (oF (U.2 0) k 3)), (8, .int 0), (7, .int (oF (U.2 0) k 0)), (6, .int (nI k)), (5, .ref q17), (1, .int (nI (nF (U.2 0)))), (0, .ref (K 7 0))]) C.1 C.2.1 dL_book_163 hl (by decide) rfl (fun ls hl => ?_)
            refine lv_iload C.1 C.2.1 dL_book_165 (lv_at hl 7 rfl) ?_
            refine lv_if_le (tgt := 183) C.1 C.2.1 dL_book_167 (by decide) (fun c_167 => ?_) (fun c_167 => ?_)
            · refine lv_iload C.1 C.2.1 dL_book_183 (lv_at hl 4 rfl) ?_
              refine lv_iconst (v := 1) C.1 C.2.1 dL_book_185 (by decide) ?_
              refine lv_icmp_lt (tgt := 246) C.1 C.2.1 dL_book_186 (by decide) (fun c_186 => absurd c_186 ((q_bnd hbk hk).1.1)) (fun c_186 => ?_)
              refine lv_iload C.1 C.2.1 dL_book_189 (lv_at hl 4 rfl) ?_
              refine lv_bipush (v := 99) C.1 C.2.1 dL_book_191 (by decide) ?_
              refine lv_icmp_gt (tgt := 246) C.1 C.2.1 dL_book_193 (by decide) (fun c_193 => absurd c_193 ((q_bnd hbk hk).1.2)) (fun c_193 => ?_)
              refine lv_aload_n C.1 C.2.1 dL_book_196 rfl (lv_at hl 10 rfl) ?_
              refine lv_iload C.1 C.2.1 dL_book_197 (lv_at hl 6 rfl) ?_
              refine r_hsi C hw (a_quantityOf hF h (oF (U.2 0) k 0) (K := K) (r := r) (X := ((q17, .inl (G.2.2.1 0, 200, .inl (upd a (100 + z) ((a (100 + z)) + (oF (U.2 0) k 4))))) :: X))) ml_L_255 yf_L_quantityOf (As := [.ref (K 7 0), .int (oF (U.2 0) k 0)]) rfl rfl ⟨(Nat.le_of_ble_eq_true rfl), (Nat.le_of_ble_eq_true rfl)⟩ ⟨by show _ ≤ 900; omega, by show _ ≤ 5500; omega⟩ hl.1 (Nat.le_of_ble_eq_true rfl) dL_book_199 (fun r_199 _ H locs hp_199 hw => ?_)
              obtain rfl : r_199 = oF (U.2 0) k 4 := hp_199.trans (q_ov hbk hk 4 _)
              replace hw : WH G s (cW G K r D ((q17, .inl (G.2.2.1 0, 200, .inl (upd a (100 + z) ((a (100 + z)) + (oF (U.2 0) k 4))))) :: X)) H locs := hw
              refine lv_iconst (v := 1) C.1 C.2.1 dL_book_202 (by decide) ?_
              refine lv_icmp_lt (tgt := 246) C.1 C.2.1 dL_book_203 (by decide) (fun c_203 => absurd c_203 ((q_bnd hbk hk).2.1.1)) (fun c_203 => ?_)
              refine lv_aload_n C.1 C.2.1 dL_book_206 rfl (lv_at hl 10 rfl) ?_
              refine lv_iload C.1 C.2.1 dL_book_207 (lv_at hl 6 rfl) ?_
              refine r_hsi C hw (a_quantityOf hF h (oF (U.2 0) k 0) (K := K) (r := r) (X := ((q17, .inl (G.2.2.1 0, 200, .inl (upd a (100 + z) ((a (100 + z)) + (oF (U.2 0) k 4))))) :: X))) ml_L_255 yf_L_quantityOf (As := [.ref (K 7 0), .int (oF (U.2 0) k 0)]) rfl rfl ⟨(Nat.le_of_ble_eq_true rfl), (Nat.le_of_ble_eq_true rfl)⟩ ⟨by show _ ≤ 900; omega, by show _ ≤ 5500; omega⟩ hl.1 (Nat.le_of_ble_eq_true rfl) dL_book_209 (fun r_209 _ H locs hp_209 hw => ?_)
              obtain rfl : r_209 = oF (U.2 0) k 4 := hp_209.trans (q_ov hbk hk 4 _)
              replace hw : WH G s (cW G K r D ((q17, .inl (G.2.2.1 0, 200, .inl (upd a (100 + z) ((a (100 + z)) + (oF (U.2 0) k 4))))) :: X)) H locs := hw
              refine lv_bipush (v := 50) C.1 C.2.1 dL_book_212 (by decide) ?_
              refine lv_icmp_gt (tgt := 246) C.1 C.2.1 dL_book_214 (by decide) (fun c_214 => absurd c_214 ((q_bnd hbk hk).2.1.2)) (fun c_214 => ?_)
              refine lv_aload_n C.1 C.2.1 dL_book_217 rfl (lv_at hl 10 rfl) ?_
              refine lv_iload C.1 C.2.1 dL_book_218 (lv_at hl 6 rfl) ?_
              refine r_hsi C hw (a_stallOf hF h (oF (U.2 0) k 0) (K := K) (r := r) (X := ((q17, .inl (G.2.2.1 0, 200, .inl (upd a (100 + z) ((a (100 + z)) + (oF (U.2 0) k 4))))) :: X))) ml_L_259 yf_L_stallOf (As := [.ref (K 7 0), .int (oF (U.2 0) k 0)]) rfl rfl ⟨(Nat.le_of_ble_eq_true rfl), (Nat.le_of_ble_eq_true rfl)⟩ ⟨by show _ ≤ 900; omega, by show _ ≤ 5500; omega⟩ hl.1 (Nat.le_of_ble_eq_true rfl) dL_book_220 (fun r_220 _ H locs hp_220 hw => ?_)
              obtain rfl : r_220 = oF (U.2 0) k 1 := hp_220.trans (q_ov hbk hk 1 _)
              replace hw : WH G s (cW G K r D ((q17, .inl (G.2.2.1 0, 200, .inl (upd a (100 + z) ((a (100 + z)) + (oF (U.2 0) k 4))))) :: X)) H locs := hw
              refine lv_if_lt (tgt := 246) C.1 C.2.1 dL_book_223 (by decide) (fun c_223 => absurd c_223 ((q_bnd hbk hk).2.2)) (fun c_223 => ?_)
              refine lv_iload C.1 C.2.1 dL_book_226 (lv_at hl 0 rfl) ?_
              refine lv_bipush (v := -14) C.1 C.2.1 dL_book_228 (by decide) ?_
              refine lv_icmp_eq (tgt := 248) C.1 C.2.1 dL_book_230 (by decide) (fun c_230 => ?_) (fun c_230 => ?_)
              · refine lv_iinc (v := nI (k + 1)) (lv' := [(6, .int (nI (k + 1))), (10, .int (if oF (U.2 0) k 5 = 0 then -14 else oF (U.2 0) k 5)), (3, .int (bOrd (U.2 0) false (k + 1))), (2, .int (bOrd (U.2 0) true (k + 1))), (4, .int (bsF (U.2 0) (k + 1))), (9, .int (oF (U.2 0) k 3)), (8, .int 0), (7, .int (oF (U.2 0) k 0)), (5, .ref q17), (1, .int (nI (nF (U.2 0)))), (0, .ref (K 7 0))]) C.1 C.2.1 dL_book_248 hl (k := 7) rfl (nI_add k 1) (by decide) rfl (fun ls hl => ?_)
                refine lv_goto (tgt := 24) C.1 C.2.1 dL_book_251 (by decide) ?_
                exact W.widen (k := 10 + 24 * (k + 1)) (n := 300 + 144 * (k + 1)) (by omega) (by omega) (ih24 ⟨(k + 1), (upd a (100 + z) ((a (100 + z)) + (oF (U.2 0) k 4)))⟩ (⟨by omega, by omega, sumA_s false hb ⟨hz1, hz2⟩ hz3 ha rfl⟩) _ _ hw _ (lv_sub hl [0, 8, 4, 2, 3, 9, 10] rfl))
              · refine lv_iload C.1 C.2.1 dL_book_233 (lv_at hl 0 rfl) ?_
                refine lv_iconst (v := 1) C.1 C.2.1 dL_book_235 (by decide) ?_
                refine lv_icmp_lt (tgt := 246) C.1 C.2.1 dL_book_236 (by decide) (fun c_236 => absurd c_236 ((q_left hbk hk c_230).1)) (fun c_236 => ?_)
                refine lv_iload C.1 C.2.1 dL_book_239 (lv_at hl 0 rfl) ?_
                refine lv_bipush (v := 60) C.1 C.2.1 dL_book_241 (by decide) ?_
                refine lv_icmp_le (tgt := 248) C.1 C.2.1 dL_book_243 (by decide) (fun c_243 => ?_) (fun c_243 => absurd ((q_left hbk hk c_230).2) c_243)
                refine lv_iinc (v := nI (k + 1)) (lv' := [(6, .int (nI (k + 1))), (10, .int (if oF (U.2 0) k 5 = 0 then -14 else oF (U.2 0) k 5)), (3, .int (bOrd (U.2 0) false (k + 1))), (2, .int (bOrd (U.2 0) true (k + 1))), (4, .int (bsF (U.2 0) (k + 1))), (9, .int (oF (U.2 0) k 3)), (8, .int 0), (7, .int (oF (U.2 0) k 0)), (5, .ref q17), (1, .int (nI (nF (U.2 0)))), (0, .ref (K 7 0))]) C.1 C.2.1 dL_book_248 hl (k := 7) rfl (nI_add k 1) (by decide) rfl (fun ls hl => ?_)
                refine lv_goto (tgt := 24) C.1 C.2.1 dL_book_251 (by decide) ?_
                exact W.widen (k := 10 + 24 * (k + 1)) (n := 300 + 144 * (k + 1)) (by omega) (by omega) (ih24 ⟨(k + 1), (upd a (100 + z) ((a (100 + z)) + (oF (U.2 0) k 4)))⟩ (⟨by omega, by omega, sumA_s false hb ⟨hz1, hz2⟩ hz3 ha rfl⟩) _ _ hw _ (lv_sub hl [0, 8, 4, 2, 3, 9, 10] rfl))
            · have hk0 : 0 < k := Nat.pos_of_ne_zero (fun e9 => c_167 (by rw [e9]; decide))
              refine lv_aload_n C.1 C.2.1 dL_book_170 rfl (lv_at hl 10 rfl) ?_
              refine lv_iload C.1 C.2.1 dL_book_171 (lv_at hl 7 rfl) ?_
              refine lv_iconst (v := 1) C.1 C.2.1 dL_book_173 (by decide) ?_
              refine lv_isub C.1 C.2.1 dL_book_174 ?_
              refine r_toe (show _ = nI (k - 1) from q_pred hk0) ?_
              refine r_hsi C hw (a_orderAt hF h (nI (k - 1)) (K := K) (r := r) (X := ((q17, .inl (G.2.2.1 0, 200, .inl (upd a (100 + z) ((a (100 + z)) + (oF (U.2 0) k 4))))) :: X))) ml_L_249 yf_L_orderAt (As := [.ref (K 7 0), .int (nI (k - 1))]) rfl rfl ⟨(Nat.le_of_ble_eq_true rfl), (Nat.le_of_ble_eq_true rfl)⟩ ⟨by show _ ≤ 900; omega, by show _ ≤ 5500; omega⟩ hl.1 (Nat.le_of_ble_eq_true rfl) dL_book_175 (fun r_175 _ H locs hp_175 hw => ?_)
              obtain rfl : r_175 = oF (U.2 0) (k - 1) 0 := hp_175.trans (q_oa hok (by omega) _)
              replace hw : WH G s (cW G K r D ((q17, .inl (G.2.2.1 0, 200, .inl (upd a (100 + z) ((a (100 + z)) + (oF (U.2 0) k 4))))) :: X)) H locs := hw
              refine lv_iload C.1 C.2.1 dL_book_178 (lv_at hl 6 rfl) ?_
              refine lv_icmp_ge (tgt := 246) C.1 C.2.1 dL_book_180 (by decide) (fun c_180 => absurd c_180 (q_inc hbk hk hk0)) (fun c_180 => ?_)
              refine lv_iload C.1 C.2.1 dL_book_183 (lv_at hl 4 rfl) ?_
              refine lv_iconst (v := 1) C.1 C.2.1 dL_book_185 (by decide) ?_
              refine lv_icmp_lt (tgt := 246) C.1 C.2.1 dL_book_186 (by decide) (fun c_186 => absurd c_186 ((q_bnd hbk hk).1.1)) (fun c_186 => ?_)
              refine lv_iload C.1 C.2.1 dL_book_189 (lv_at hl 4 rfl) ?_
              refine lv_bipush (v := 99) C.1 C.2.1 dL_book_191 (by decide) ?_
              refine lv_icmp_gt (tgt := 246) C.1 C.2.1 dL_book_193 (by decide) (fun c_193 => absurd c_193 ((q_bnd hbk hk).1.2)) (fun c_193 => ?_)
              refine lv_aload_n C.1 C.2.1 dL_book_196 rfl (lv_at hl 10 rfl) ?_
              refine lv_iload C.1 C.2.1 dL_book_197 (lv_at hl 6 rfl) ?_
              refine r_hsi C hw (a_quantityOf hF h (oF (U.2 0) k 0) (K := K) (r := r) (X := ((q17, .inl (G.2.2.1 0, 200, .inl (upd a (100 + z) ((a (100 + z)) + (oF (U.2 0) k 4))))) :: X))) ml_L_255 yf_L_quantityOf (As := [.ref (K 7 0), .int (oF (U.2 0) k 0)]) rfl rfl ⟨(Nat.le_of_ble_eq_true rfl), (Nat.le_of_ble_eq_true rfl)⟩ ⟨by show _ ≤ 900; omega, by show _ ≤ 5500; omega⟩ hl.1 (Nat.le_of_ble_eq_true rfl) dL_book_199 (fun r_199 _ H locs hp_199 hw => ?_)
              obtain rfl : r_199 = oF (U.2 0) k 4 := hp_199.trans (q_ov hbk hk 4 _)
              replace hw : WH G s (cW G K r D ((q17, .inl (G.2.2.1 0, 200, .inl (upd a (100 + z) ((a (100 + z)) + (oF (U.2 0) k 4))))) :: X)) H locs := hw
              refine lv_iconst (v := 1) C.1 C.2.1 dL_book_202 (by decide) ?_
              refine lv_icmp_lt (tgt := 246) C.1 C.2.1 dL_book_203 (by decide) (fun c_203 => absurd c_203 ((q_bnd hbk hk).2.1.1)) (fun c_203 => ?_)
              refine lv_aload_n C.1 C.2.1 dL_book_206 rfl (lv_at hl 10 rfl) ?_
              refine lv_iload C.1 C.2.1 dL_book_207 (lv_at hl 6 rfl) ?_
              refine r_hsi C hw (a_quantityOf hF h (oF (U.2 0) k 0) (K := K) (r := r) (X := ((q17, .inl (G.2.2.1 0, 200, .inl (upd a (100 + z) ((a (100 + z)) + (oF (U.2 0) k 4))))) :: X))) ml_L_255 yf_L_quantityOf (As := [.ref (K 7 0), .int (oF (U.2 0) k 0)]) rfl rfl ⟨(Nat.le_of_ble_eq_true rfl), (Nat.le_of_ble_eq_true rfl)⟩ ⟨by show _ ≤ 900; omega, by show _ ≤ 5500; omega⟩ hl.1 (Nat.le_of_ble_eq_true rfl) dL_book_209 (fun r_209 _ H locs hp_209 hw => ?_)
              obtain rfl : r_209 = oF (U.2 0) k 4 := hp_209.trans (q_ov hbk hk 4 _)
              replace hw : WH G s (cW G K r D ((q17, .inl (G.2.2.1 0, 200, .inl (upd a (100 + z) ((a (100 + z)) + (oF (U.2 0) k 4))))) :: X)) H locs := hw
              refine lv_bipush (v := 50) C.1 C.2.1 dL_book_212 (by decide) ?_
              refine lv_icmp_gt (tgt := 246) C.1 C.2.1 dL_book_214 (by decide) (fun c_214 => absurd c_214 ((q_bnd hbk hk).2.1.2)) (fun c_214 => ?_)
              refine lv_aload_n C.1 C.2.1 dL_book_217 rfl (lv_at hl 10 rfl) ?_
              refine lv_iload C.1 C.2.1 dL_book_218 (lv_at hl 6 rfl) ?_
              refine r_hsi C hw (a_stallOf hF h (oF (U.2 0) k 0) (K := K) (r := r) (X := ((q17, .inl (G.2.2.1 0, 200, .inl (upd a (100 + z) ((a (100 + z)) + (oF (U.2 0) k 4))))) :: X))) ml_L_259 yf_L_stallOf (As := [.ref (K 7 0), .int (oF (U.2 0) k 0)]) rfl rfl ⟨(Nat.le_of_ble_eq_true rfl), (Nat.le_of_ble_eq_true rfl)⟩ ⟨by show _ ≤ 900; omega, by show _ ≤ 5500; omega⟩ hl.1 (Nat.le_of_ble_eq_true rfl) dL_book_220 (fun r_220 _ H locs hp_220 hw => ?_)
              obtain rfl : r_220 = oF (U.2 0) k 1 := hp_220.trans (q_ov hbk hk 1 _)
              replace hw : WH G s (cW G K r D ((q17, .inl (G.2.2.1 0, 200, .inl (upd a (100 + z) ((a (100 + z)) + (oF (U.2 0) k 4))))) :: X)) H locs := hw
              refine lv_if_lt (tgt := 246) C.1 C.2.1 dL_book_223 (by decide) (fun c_223 => absurd c_223 ((q_bnd hbk hk).2.2)) (fun c_223 => ?_)
              refine lv_iload C.1 C.2.1 dL_book_226 (lv_at hl 0 rfl) ?_
              refine lv_bipush (v := -14) C.1 C.2.1 dL_book_228 (by decide) ?_
              refine lv_icmp_eq (tgt := 248) C.1 C.2.1 dL_book_230 (by decide) (fun c_230 => ?_) (fun c_230 => ?_)
              · refine lv_iinc (v := nI (k + 1)) (lv' := [(6, .int (nI (k + 1))), (10, .int (if oF (U.2 0) k 5 = 0 then -14 else oF (U.2 0) k 5)), (3, .int (bOrd (U.2 0) false (k + 1))), (2, .int (bOrd (U.2 0) true (k + 1))), (4, .int (bsF (U.2 0) (k + 1))), (9, .int (oF (U.2 0) k 3)), (8, .int 0), (7, .int (oF (U.2 0) k 0)), (5, .ref q17), (1, .int (nI (nF (U.2 0)))), (0, .ref (K 7 0))]) C.1 C.2.1 dL_book_248 hl (k := 7) rfl (nI_add k 1) (by decide) rfl (fun ls hl => ?_)
                refine lv_goto (tgt := 24) C.1 C.2.1 dL_book_251 (by decide) ?_
                exact W.widen (k := 10 + 24 * (k + 1)) (n := 300 + 144 * (k + 1)) (by omega) (by omega) (ih24 ⟨(k + 1), (upd a (100 + z) ((a (100 + z)) + (oF (U.2 0) k 4)))⟩ (⟨by omega, by omega, sumA_s false hb ⟨hz1, hz2⟩ hz3 ha rfl⟩) _ _ hw _ (lv_sub hl [0, 8, 4, 2, 3, 9, 10] rfl))
              · refine lv_iload C.1 C.2.1 dL_book_233 (lv_at hl 0 rfl) ?_
                refine lv_iconst (v := 1) C.1 C.2.1 dL_book_235 (by decide) ?_
                refine lv_icmp_lt (tgt := 246) C.1 C.2.1 dL_book_236 (by decide) (fun c_236 => absurd c_236 ((q_left hbk hk c_230).1)) (fun c_236 => ?_)
                refine lv_iload C.1 C.2.1 dL_book_239 (lv_at hl 0 rfl) ?_
                refine lv_bipush (v := 60) C.1 C.2.1 dL_book_241 (by decide) ?_
                refine lv_icmp_le (tgt := 248) C.1 C.2.1 dL_book_243 (by decide) (fun c_243 => ?_) (fun c_243 => absurd ((q_left hbk hk c_230).2) c_243)
                refine lv_iinc (v := nI (k + 1)) (lv' := [(6, .int (nI (k + 1))), (10, .int (if oF (U.2 0) k 5 = 0 then -14 else oF (U.2 0) k 5)), (3, .int (bOrd (U.2 0) false (k + 1))), (2, .int (bOrd (U.2 0) true (k + 1))), (4, .int (bsF (U.2 0) (k + 1))), (9, .int (oF (U.2 0) k 3)), (8, .int 0), (7, .int (oF (U.2 0) k 0)), (5, .ref q17), (1, .int (nI (nF (U.2 0)))), (0, .ref (K 7 0))]) C.1 C.2.1 dL_book_248 hl (k := 7) rfl (nI_add k 1) (by decide) rfl (fun ls hl => ?_)
                refine lv_goto (tgt := 24) C.1 C.2.1 dL_book_251 (by decide) ?_
                exact W.widen (k := 10 + 24 * (k + 1)) (n := 300 + 144 * (k + 1)) (by omega) (by omega) (ih24 ⟨(k + 1), (upd a (100 + z) ((a (100 + z)) + (oF (U.2 0) k 4)))⟩ (⟨by omega, by omega, sumA_s false hb ⟨hz1, hz2⟩ hz3 ha rfl⟩) _ _ hw _ (lv_sub hl [0, 8, 4, 2, 3, 9, 10] rfl))
      · have hb : byF (U.2 0) k = true := hb9
        refine r_toe (show _ = 1 from rfl) ?_
        refine lv_iconst (v := 1) C.1 C.2.1 dL_book_44 (by decide) ?_
        refine lv_icmp_ne (tgt := 52) C.1 C.2.1 dL_book_45 (by decide) (fun c_45 => absurd (rfl) c_45) (fun c_45 => ?_)
        refine lv_iconst (v := 1) C.1 C.2.1 dL_book_48 (by decide) ?_
        refine lv_goto (tgt := 53) C.1 C.2.1 dL_book_49 (by decide) ?_
        refine lv_istore (lv' := [(8, .int 1), (7, .int (oF (U.2 0) k 0)), (6, .int (nI k)), (5, .ref q17), (4, .int (bsF (U.2 0) k)), (3, .int (bOrd (U.2 0) false k)), (2, .int (bOrd (U.2 0) true k)), (1, .int (nI (nF (U.2 0)))), (0, .ref (K 7 0))]) C.1 C.2.1 dL_book_53 hl (by decide) rfl (fun ls hl => ?_)
        refine lv_aload_n C.1 C.2.1 dL_book_55 rfl (lv_at hl 8 rfl) ?_
        refine lv_iload C.1 C.2.1 dL_book_56 (lv_at hl 1 rfl) ?_
        refine r_hsi C hw (a_priceOf hF h (oF (U.2 0) k 0) (K := K) (r := r) (X := ((q17, .inl (G.2.2.1 0, 200, .inl a)) :: X))) ml_L_253 yf_L_priceOf (As := [.ref (K 7 0), .int (oF (U.2 0) k 0)]) rfl rfl ⟨(Nat.le_of_ble_eq_true rfl), (Nat.le_of_ble_eq_true rfl)⟩ ⟨by show _ ≤ 900; omega, by show _ ≤ 5500; omega⟩ hl.1 (Nat.le_of_ble_eq_true rfl) dL_book_58 (fun r_58 _ H locs hp_58 hw => ?_)
        obtain rfl : r_58 = oF (U.2 0) k 3 := hp_58.trans (q_ov hbk hk 3 _)
        replace hw : WH G s (cW G K r D ((q17, .inl (G.2.2.1 0, 200, .inl a)) :: X)) H locs := hw
        refine lv_istore (lv' := [(9, .int (oF (U.2 0) k 3)), (8, .int 1), (7, .int (oF (U.2 0) k 0)), (6, .int (nI k)), (5, .ref q17), (4, .int (bsF (U.2 0) k)), (3, .int (bOrd (U.2 0) false k)), (2, .int (bOrd (U.2 0) true k)), (1, .int (nI (nF (U.2 0)))), (0, .ref (K 7 0))]) C.1 C.2.1 dL_book_61 hl (by decide) rfl (fun ls hl => ?_)
        refine lv_iload C.1 C.2.1 dL_book_63 (lv_at hl 5 rfl) ?_
        refine lv_iload C.1 C.2.1 dL_book_65 (lv_at hl 1 rfl) ?_
        refine lv_if_eq (tgt := 74) C.1 C.2.1 dL_book_67 (by decide) (fun c_67 => absurd c_67 (by decide)) (fun c_67 => ?_)
        refine lv_iconst (v := 1) C.1 C.2.1 dL_book_70 (by decide) ?_
        refine lv_goto (tgt := 75) C.1 C.2.1 dL_book_71 (by decide) ?_
        refine lv_iadd C.1 C.2.1 dL_book_75 ?_
        refine r_toe (show _ = bsF (U.2 0) (k + 1) from by show bsF (U.2 0) k + 1 = bsF (U.2 0) k + oF (U.2 0) k 2; rw [q_by hbk hk, hb]; rfl) ?_
        refine lv_istore (lv' := [(4, .int (bsF (U.2 0) (k + 1))), (9, .int (oF (U.2 0) k 3)), (8, .int 1), (7, .int (oF (U.2 0) k 0)), (6, .int (nI k)), (5, .ref q17), (3, .int (bOrd (U.2 0) false k)), (2, .int (bOrd (U.2 0) true k)), (1, .int (nI (nF (U.2 0)))), (0, .ref (K 7 0))]) C.1 C.2.1 dL_book_76 hl (by decide) rfl (fun ls hl => ?_)
        refine lv_aload C.1 C.2.1 dL_book_78 (lv_at hl 5 rfl) ?_
        refine lv_iload C.1 C.2.1 dL_book_80 (lv_at hl 2 rfl) ?_
        refine lv_if_eq (tgt := 90) C.1 C.2.1 dL_book_82 (by decide) (fun c_82 => absurd c_82 (by decide)) (fun c_82 => ?_)
        refine lv_iload C.1 C.2.1 dL_book_85 (lv_at hl 1 rfl) ?_
        refine r_toe (show _ = nI z from hz3) ?_
        refine lv_goto (tgt := 95) C.1 C.2.1 dL_book_87 (by decide) ?_
        refine lv_dup2_11 C.1 C.2.1 dL_book_95 rfl rfl ?_
        refine lx_iald C hw (i := z) (by omega) (by omega) dL_book_96 ?_
        refine lv_aload_n C.1 C.2.1 dL_book_97 rfl (lv_at hl 9 rfl) ?_
        refine lv_iload C.1 C.2.1 dL_book_98 (lv_at hl 3 rfl) ?_
        refine r_hsi C hw (a_quantityOf hF h (oF (U.2 0) k 0) (K := K) (r := r) (X := ((q17, .inl (G.2.2.1 0, 200, .inl a)) :: X))) ml_L_255 yf_L_quantityOf (As := [.ref (K 7 0), .int (oF (U.2 0) k 0)]) rfl rfl ⟨(Nat.le_of_ble_eq_true rfl), (Nat.le_of_ble_eq_true rfl)⟩ ⟨by show _ ≤ 900; omega, by show _ ≤ 5500; omega⟩ hl.1 (Nat.le_of_ble_eq_true rfl) dL_book_100 (fun r_100 _ H locs hp_100 hw => ?_)
        obtain rfl : r_100 = oF (U.2 0) k 4 := hp_100.trans (q_ov hbk hk 4 _)
        replace hw : WH G s (cW G K r D ((q17, .inl (G.2.2.1 0, 200, .inl a)) :: X)) H locs := hw
        refine lv_iadd C.1 C.2.1 dL_book_103 ?_
        refine lx_iast C hw (i := z) (by omega) (by omega) dL_book_104 (fun H locs hw => ?_)
        replace hw : WH G s (cW G K r D ((q17, .inl (G.2.2.1 0, 200, .inl (upd a z ((a z) + (oF (U.2 0) k 4))))) :: X)) H locs := hw
        refine lv_iload C.1 C.2.1 dL_book_105 (lv_at hl 2 rfl) ?_
        refine w_join (σ := Int32) G (pc1 := 130) (fun v1 => v1 = bOrd (U.2 0) true (k + 1)) (fun _ => cW G K r D ((q17, .inl (G.2.2.1 0, 200, .inl (upd a z ((a z) + (oF (U.2 0) k 4))))) :: X)) (fun _ => 10 + 24 * k + 4 + 1) (fun _ => 300 + 144 * k + 24 + 6) (fun _ => [(4, .int (bsF (U.2 0) (k + 1))), (9, .int (oF (U.2 0) k 3)), (8, .int 1), (7, .int (oF (U.2 0) k 0)), (6, .int (nI k)), (5, .ref q17), (3, .int (bOrd (U.2 0) false k)), (2, .int (bOrd (U.2 0) true k)), (1, .int (nI (nF (U.2 0)))), (0, .ref (K 7 0))]) (fun v1 => [.int v1]) 11 (fun cont130 => ?_) ?_
        · refine lv_if_eq (tgt := 129) C.1 C.2.1 dL_book_107 (by decide) (fun c_107 => absurd c_107 (by decide)) (fun c_107 => ?_)
          refine lv_iload_n C.1 C.2.1 dL_book_110 rfl (lv_at hl 7 rfl) ?_
          refine lv_if_lt (tgt := 124) C.1 C.2.1 dL_book_111 (by decide) (fun c_111 => ?_) (fun c_111 => ?_)
          · refine lv_iload C.1 C.2.1 dL_book_124 (lv_at hl 3 rfl) ?_
            refine lv_goto (tgt := 130) C.1 C.2.1 dL_book_126 (by decide) ?_
            exact W.widen (k := 10 + 24 * k + 4 + 1) (n := 300 + 144 * k + 24 + 6) (by omega) (by omega) (cont130 (oF (U.2 0) k 0) ((bO_new hbk hk hb).1 c_111) _ _ hw _ (lv_sub hl [0, 1, 2, 3, 4, 5, 6, 7, 8, 9] rfl))
          · obtain ⟨j1, hj1, hm1, ej1⟩ := bO_ge c_111
            refine lv_iload C.1 C.2.1 dL_book_114 (lv_at hl 1 rfl) ?_
            refine lv_aload_n C.1 C.2.1 dL_book_116 rfl (lv_at hl 9 rfl) ?_
            refine lv_iload_n C.1 C.2.1 dL_book_117 rfl (lv_at hl 7 rfl) ?_
            refine r_hsi C hw (a_priceOf hF h (bOrd (U.2 0) true k) (K := K) (r := r) (X := ((q17, .inl (G.2.2.1 0, 200, .inl (upd a z ((a z) + (oF (U.2 0) k 4))))) :: X))) ml_L_253 yf_L_priceOf (As := [.ref (K 7 0), .int (bOrd (U.2 0) true k)]) rfl rfl ⟨(Nat.le_of_ble_eq_true rfl), (Nat.le_of_ble_eq_true rfl)⟩ ⟨by show _ ≤ 900; omega, by show _ ≤ 5500; omega⟩ hl.1 (Nat.le_of_ble_eq_true rfl) dL_book_118 (fun r_118 _ H locs hp_118 hw => ?_)
            obtain rfl : r_118 = oF (U.2 0) j1 3 := hp_118.trans (by rw [ej1]; exact q_ov hbk (by omega) 3 _)
            replace hw : WH G s (cW G K r D ((q17, .inl (G.2.2.1 0, 200, .inl (upd a z ((a z) + (oF (U.2 0) k 4))))) :: X)) H locs := hw
            refine lv_icmp_le (tgt := 129) C.1 C.2.1 dL_book_121 (by decide) (fun c_121 => ?_) (fun c_121 => ?_)
            · refine lv_iload_n C.1 C.2.1 dL_book_129 rfl (lv_at hl 7 rfl) ?_
              exact W.widen (k := 10 + 24 * k + 4 + 1) (n := 300 + 144 * k + 24 + 6) (by omega) (by omega) (cont130 (bOrd (U.2 0) true k) (((bO_new hbk hk hb).2 j1 hj1 hm1).1 ((md_t hbk hk (by omega)).1.mpr c_121)) _ _ hw _ (lv_sub hl [0, 1, 2, 3, 4, 5, 6, 7, 8, 9] rfl))
            · refine lv_iload C.1 C.2.1 dL_book_124 (lv_at hl 3 rfl) ?_
              refine lv_goto (tgt := 130) C.1 C.2.1 dL_book_126 (by decide) ?_
              exact W.widen (k := 10 + 24 * k + 4 + 1) (n := 300 + 144 * k + 24 + 6) (by omega) (by omega) (cont130 (oF (U.2 0) k 0) (((bO_new hbk hk hb).2 j1 hj1 hm1).2 (fun q9 => c_121 ((md_t hbk hk (by omega)).1.mp q9))) _ _ hw _ (lv_sub hl [0, 1, 2, 3, 4, 5, 6, 7, 8, 9] rfl))
        · intro v1 hv1 H locs hw ls hl
          replace hw : WH G s (cW G K r D ((q17, .inl (G.2.2.1 0, 200, .inl (upd a z ((a z) + (oF (U.2 0) k 4))))) :: X)) H locs := hw
          replace hl : lv_has ls 11 [(4, .int (bsF (U.2 0) (k + 1))), (9, .int (oF (U.2 0) k 3)), (8, .int 1), (7, .int (oF (U.2 0) k 0)), (6, .int (nI k)), (5, .ref q17), (3, .int (bOrd (U.2 0) false k)), (2, .int (bOrd (U.2 0) true k)), (1, .int (nI (nF (U.2 0)))), (0, .ref (K 7 0))] := hl
          show W p l e _ s m _ below meth c0 H locs (10 + 24 * k + 4 + 1) (300 + 144 * k + 24 + 6) _ (F0 m 130 ls [.int v1])
          subst hv1
          refine lv_istore_n (lv' := [(2, .int (bOrd (U.2 0) true (k + 1))), (4, .int (bsF (U.2 0) (k + 1))), (9, .int (oF (U.2 0) k 3)), (8, .int 1), (7, .int (oF (U.2 0) k 0)), (6, .int (nI k)), (5, .ref q17), (3, .int (bOrd (U.2 0) false k)), (1, .int (nI (nF (U.2 0)))), (0, .ref (K 7 0))]) C.1 C.2.1 dL_book_130 rfl hl (by decide) rfl (fun ls hl => ?_)
          refine lv_iload C.1 C.2.1 dL_book_131 (lv_at hl 3 rfl) ?_
          refine w_join (σ := Int32) G (pc1 := 156) (fun v2 => v2 = bOrd (U.2 0) false (k + 1)) (fun _ => cW G K r D ((q17, .inl (G.2.2.1 0, 200, .inl (upd a z ((a z) + (oF (U.2 0) k 4))))) :: X)) (fun _ => 10 + 24 * k + 4 + 1 + 1) (fun _ => 300 + 144 * k + 24 + 6 + 6) (fun _ => [(2, .int (bOrd (U.2 0) true (k + 1))), (4, .int (bsF (U.2 0) (k + 1))), (9, .int (oF (U.2 0) k 3)), (8, .int 1), (7, .int (oF (U.2 0) k 0)), (6, .int (nI k)), (5, .ref q17), (3, .int (bOrd (U.2 0) false k)), (1, .int (nI (nF (U.2 0)))), (0, .ref (K 7 0))]) (fun v2 => [.int v2]) 11 (fun cont156 => ?_) ?_
          · refine lv_if_ne (tgt := 155) C.1 C.2.1 dL_book_133 (by decide) (fun c_133 => ?_) (fun c_133 => absurd c_133 (by decide))
            refine lv_iload_n C.1 C.2.1 dL_book_155 rfl (lv_at hl 7 rfl) ?_
            exact W.widen (k := 10 + 24 * k + 4 + 1 + 1) (n := 300 + 144 * k + 24 + 6 + 6) (by omega) (by omega) (cont156 (bOrd (U.2 0) false k) (bO_no (by rw [hb]; decide)) _ _ hw _ (lv_sub hl [0, 1, 2, 3, 4, 5, 6, 7, 8, 9] rfl))
          · intro v2 hv2 H locs hw ls hl
            replace hw : WH G s (cW G K r D ((q17, .inl (G.2.2.1 0, 200, .inl (upd a z ((a z) + (oF (U.2 0) k 4))))) :: X)) H locs := hw
            replace hl : lv_has ls 11 [(2, .int (bOrd (U.2 0) true (k + 1))), (4, .int (bsF (U.2 0) (k + 1))), (9, .int (oF (U.2 0) k 3)), (8, .int 1), (7, .int (oF (U.2 0) k 0)), (6, .int (nI k)), (5, .ref q17), (3, .int (bOrd (U.2 0) false k)), (1, .int (nI (nF (U.2 0)))), (0, .ref (K 7 0))] := hl
            show W p l e _ s m _ below meth c0 H locs (10 + 24 * k + 4 + 1 + 1) (300 + 144 * k + 24 + 6 + 6) _ (F0 m 156 ls [.int v2])
            subst hv2
            refine lv_istore_n (lv' := [(3, .int (bOrd (U.2 0) false (k + 1))), (2, .int (bOrd (U.2 0) true (k + 1))), (4, .int (bsF (U.2 0) (k + 1))), (9, .int (oF (U.2 0) k 3)), (8, .int 1), (7, .int (oF (U.2 0) k 0)), (6, .int (nI k)), (5, .ref q17), (1, .int (nI (nF (U.2 0)))), (0, .ref (K 7 0))]) C.1 C.2.1 dL_book_156 rfl hl (by decide) rfl (fun ls hl => ?_)
            refine lv_aload_n C.1 C.2.1 dL_book_157 rfl (lv_at hl 9 rfl) ?_
            refine lv_iload C.1 C.2.1 dL_book_158 (lv_at hl 5 rfl) ?_
            refine r_hsi C hw (a_minutesLeft hF h hc (oF (U.2 0) k 0) (K := K) (r := r) (X := ((q17, .inl (G.2.2.1 0, 200, .inl (upd a z ((a z) + (oF (U.2 0) k 4))))) :: X))) ml_L_257 yf_L_minutesLeft (As := [.ref (K 7 0), .int (oF (U.2 0) k 0)]) rfl rfl ⟨(Nat.le_of_ble_eq_true rfl), (Nat.le_of_ble_eq_true rfl)⟩ ⟨by show _ ≤ 900; omega, by show _ ≤ 5500; omega⟩ hl.1 (Nat.le_of_ble_eq_true rfl) dL_book_160 (fun r_160 _ H locs hp_160 hw => ?_)
            obtain rfl : r_160 = (if oF (U.2 0) k 5 = 0 then -14 else oF (U.2 0) k 5) := hp_160.trans (q_mi hbk hk)
            replace hw : WH G s (cW G K r D ((q17, .inl (G.2.2.1 0, 200, .inl (upd a z ((a z) + (oF (U.2 0) k 4))))) :: X)) H locs := hw
            refine lv_istore (lv' := [(10, .int (if oF (U.2 0) k 5 = 0 then -14 else oF (U.2 0) k 5)), (3, .int (bOrd (U.2 0) false (k + 1))), (2, .int (bOrd (U.2 0) true (k + 1))), (4, .int (bsF (U.2 0) (k + 1))), (9, .int (oF (U.2 0) k 3)), (8, .int 1), (7, .int (oF (U.2 0) k 0)), (6, .int (nI k)), (5, .ref q17), (1, .int (nI (nF (U.2 0)))), (0, .ref (K 7 0))]) C.1 C.2.1 dL_book_163 hl (by decide) rfl (fun ls hl => ?_)
            refine lv_iload C.1 C.2.1 dL_book_165 (lv_at hl 7 rfl) ?_
            refine lv_if_le (tgt := 183) C.1 C.2.1 dL_book_167 (by decide) (fun c_167 => ?_) (fun c_167 => ?_)
            · refine lv_iload C.1 C.2.1 dL_book_183 (lv_at hl 4 rfl) ?_
              refine lv_iconst (v := 1) C.1 C.2.1 dL_book_185 (by decide) ?_
              refine lv_icmp_lt (tgt := 246) C.1 C.2.1 dL_book_186 (by decide) (fun c_186 => absurd c_186 ((q_bnd hbk hk).1.1)) (fun c_186 => ?_)
              refine lv_iload C.1 C.2.1 dL_book_189 (lv_at hl 4 rfl) ?_
              refine lv_bipush (v := 99) C.1 C.2.1 dL_book_191 (by decide) ?_
              refine lv_icmp_gt (tgt := 246) C.1 C.2.1 dL_book_193 (by decide) (fun c_193 => absurd c_193 ((q_bnd hbk hk).1.2)) (fun c_193 => ?_)
              refine lv_aload_n C.1 C.2.1 dL_book_196 rfl (lv_at hl 10 rfl) ?_
              refine lv_iload C.1 C.2.1 dL_book_197 (lv_at hl 6 rfl) ?_
              refine r_hsi C hw (a_quantityOf hF h (oF (U.2 0) k 0) (K := K) (r := r) (X := ((q17, .inl (G.2.2.1 0, 200, .inl (upd a z ((a z) + (oF (U.2 0) k 4))))) :: X))) ml_L_255 yf_L_quantityOf (As := [.ref (K 7 0), .int (oF (U.2 0) k 0)]) rfl rfl ⟨(Nat.le_of_ble_eq_true rfl), (Nat.le_of_ble_eq_true rfl)⟩ ⟨by show _ ≤ 900; omega, by show _ ≤ 5500; omega⟩ hl.1 (Nat.le_of_ble_eq_true rfl) dL_book_199 (fun r_199 _ H locs hp_199 hw => ?_)
              obtain rfl : r_199 = oF (U.2 0) k 4 := hp_199.trans (q_ov hbk hk 4 _)
              replace hw : WH G s (cW G K r D ((q17, .inl (G.2.2.1 0, 200, .inl (upd a z ((a z) + (oF (U.2 0) k 4))))) :: X)) H locs := hw
              refine lv_iconst (v := 1) C.1 C.2.1 dL_book_202 (by decide) ?_
              refine lv_icmp_lt (tgt := 246) C.1 C.2.1 dL_book_203 (by decide) (fun c_203 => absurd c_203 ((q_bnd hbk hk).2.1.1)) (fun c_203 => ?_)
              refine lv_aload_n C.1 C.2.1 dL_book_206 rfl (lv_at hl 10 rfl) ?_
              refine lv_iload C.1 C.2.1 dL_book_207 (lv_at hl 6 rfl) ?_
              refine r_hsi C hw (a_quantityOf hF h (oF (U.2 0) k 0) (K := K) (r := r) (X := ((q17, .inl (G.2.2.1 0, 200, .inl (upd a z ((a z) + (oF (U.2 0) k 4))))) :: X))) ml_L_255 yf_L_quantityOf (As := [.ref (K 7 0), .int (oF (U.2 0) k 0)]) rfl rfl ⟨(Nat.le_of_ble_eq_true rfl), (Nat.le_of_ble_eq_true rfl)⟩ ⟨by show _ ≤ 900; omega, by show _ ≤ 5500; omega⟩ hl.1 (Nat.le_of_ble_eq_true rfl) dL_book_209 (fun r_209 _ H locs hp_209 hw => ?_)
              obtain rfl : r_209 = oF (U.2 0) k 4 := hp_209.trans (q_ov hbk hk 4 _)
              replace hw : WH G s (cW G K r D ((q17, .inl (G.2.2.1 0, 200, .inl (upd a z ((a z) + (oF (U.2 0) k 4))))) :: X)) H locs := hw
              refine lv_bipush (v := 50) C.1 C.2.1 dL_book_212 (by decide) ?_
              refine lv_icmp_gt (tgt := 246) C.1 C.2.1 dL_book_214 (by decide) (fun c_214 => absurd c_214 ((q_bnd hbk hk).2.1.2)) (fun c_214 => ?_)
              refine lv_aload_n C.1 C.2.1 dL_book_217 rfl (lv_at hl 10 rfl) ?_
              refine lv_iload C.1 C.2.1 dL_book_218 (lv_at hl 6 rfl) ?_
              refine r_hsi C hw (a_stallOf hF h (oF (U.2 0) k 0) (K := K) (r := r) (X := ((q17, .inl (G.2.2.1 0, 200, .inl (upd a z ((a z) + (oF (U.2 0) k 4))))) :: X))) ml_L_259 yf_L_stallOf (As := [.ref (K 7 0), .int (oF (U.2 0) k 0)]) rfl rfl ⟨(Nat.le_of_ble_eq_true rfl), (Nat.le_of_ble_eq_true rfl)⟩ ⟨by show _ ≤ 900; omega, by show _ ≤ 5500; omega⟩ hl.1 (Nat.le_of_ble_eq_true rfl) dL_book_220 (fun r_220 _ H locs hp_220 hw => ?_)
              obtain rfl : r_220 = oF (U.2 0) k 1 := hp_220.trans (q_ov hbk hk 1 _)
              replace hw : WH G s (cW G K r D ((q17, .inl (G.2.2.1 0, 200, .inl (upd a z ((a z) + (oF (U.2 0) k 4))))) :: X)) H locs := hw
              refine lv_if_lt (tgt := 246) C.1 C.2.1 dL_book_223 (by decide) (fun c_223 => absurd c_223 ((q_bnd hbk hk).2.2)) (fun c_223 => ?_)
              refine lv_iload C.1 C.2.1 dL_book_226 (lv_at hl 0 rfl) ?_
              refine lv_bipush (v := -14) C.1 C.2.1 dL_book_228 (by decide) ?_
              refine lv_icmp_eq (tgt := 248) C.1 C.2.1 dL_book_230 (by decide) (fun c_230 => ?_) (fun c_230 => ?_)
              · refine lv_iinc (v := nI (k + 1)) (lv' := [(6, .int (nI (k + 1))), (10, .int (if oF (U.2 0) k 5 = 0 then -14 else oF (U.2 0) k 5)), (3, .int (bOrd (U.2 0) false (k + 1))), (2, .int (bOrd (U.2 0) true (k + 1))), (4, .int (bsF (U.2 0) (k + 1))), (9, .int (oF (U.2 0) k 3)), (8, .int 1), (7, .int (oF (U.2 0) k 0)), (5, .ref q17), (1, .int (nI (nF (U.2 0)))), (0, .ref (K 7 0))]) C.1 C.2.1 dL_book_248 hl (k := 7) rfl (nI_add k 1) (by decide) rfl (fun ls hl => ?_)
                refine lv_goto (tgt := 24) C.1 C.2.1 dL_book_251 (by decide) ?_
                exact W.widen (k := 10 + 24 * (k + 1)) (n := 300 + 144 * (k + 1)) (by omega) (by omega) (ih24 ⟨(k + 1), (upd a z ((a z) + (oF (U.2 0) k 4)))⟩ (⟨by omega, by omega, sumA_s true hb ⟨hz1, hz2⟩ hz3 ha rfl⟩) _ _ hw _ (lv_sub hl [0, 8, 4, 2, 3, 9, 10] rfl))
              · refine lv_iload C.1 C.2.1 dL_book_233 (lv_at hl 0 rfl) ?_
                refine lv_iconst (v := 1) C.1 C.2.1 dL_book_235 (by decide) ?_
                refine lv_icmp_lt (tgt := 246) C.1 C.2.1 dL_book_236 (by decide) (fun c_236 => absurd c_236 ((q_left hbk hk c_230).1)) (fun c_236 => ?_)
                refine lv_iload C.1 C.2.1 dL_book_239 (lv_at hl 0 rfl) ?_
                refine lv_bipush (v := 60) C.1 C.2.1 dL_book_241 (by decide) ?_
                refine lv_icmp_le (tgt := 248) C.1 C.2.1 dL_book_243 (by decide) (fun c_243 => ?_) (fun c_243 => absurd ((q_left hbk hk c_230).2) c_243)
                refine lv_iinc (v := nI (k + 1)) (lv' := [(6, .int (nI (k + 1))), (10, .int (if oF (U.2 0) k 5 = 0 then -14 else oF (U.2 0) k 5)), (3, .int (bOrd (U.2 0) false (k + 1))), (2, .int (bOrd (U.2 0) true (k + 1))), (4, .int (bsF (U.2 0) (k + 1))), (9, .int (oF (U.2 0) k 3)), (8, .int 1), (7, .int (oF (U.2 0) k 0)), (5, .ref q17), (1, .int (nI (nF (U.2 0)))), (0, .ref (K 7 0))]) C.1 C.2.1 dL_book_248 hl (k := 7) rfl (nI_add k 1) (by decide) rfl (fun ls hl => ?_)
                refine lv_goto (tgt := 24) C.1 C.2.1 dL_book_251 (by decide) ?_
                exact W.widen (k := 10 + 24 * (k + 1)) (n := 300 + 144 * (k + 1)) (by omega) (by omega) (ih24 ⟨(k + 1), (upd a z ((a z) + (oF (U.2 0) k 4)))⟩ (⟨by omega, by omega, sumA_s true hb ⟨hz1, hz2⟩ hz3 ha rfl⟩) _ _ hw _ (lv_sub hl [0, 8, 4, 2, 3, 9, 10] rfl))
            · have hk0 : 0 < k := Nat.pos_of_ne_zero (fun e9 => c_167 (by rw [e9]; decide))
              refine lv_aload_n C.1 C.2.1 dL_book_170 rfl (lv_at hl 10 rfl) ?_
              refine lv_iload C.1 C.2.1 dL_book_171 (lv_at hl 7 rfl) ?_
              refine lv_iconst (v := 1) C.1 C.2.1 dL_book_173 (by decide) ?_
              refine lv_isub C.1 C.2.1 dL_book_174 ?_
              refine r_toe (show _ = nI (k - 1) from q_pred hk0) ?_
              refine r_hsi C hw (a_orderAt hF h (nI (k - 1)) (K := K) (r := r) (X := ((q17, .inl (G.2.2.1 0, 200, .inl (upd a z ((a z) + (oF (U.2 0) k 4))))) :: X))) ml_L_249 yf_L_orderAt (As := [.ref (K 7 0), .int (nI (k - 1))]) rfl rfl ⟨(Nat.le_of_ble_eq_true rfl), (Nat.le_of_ble_eq_true rfl)⟩ ⟨by show _ ≤ 900; omega, by show _ ≤ 5500; omega⟩ hl.1 (Nat.le_of_ble_eq_true rfl) dL_book_175 (fun r_175 _ H locs hp_175 hw => ?_)
              obtain rfl : r_175 = oF (U.2 0) (k - 1) 0 := hp_175.trans (q_oa hok (by omega) _)
              replace hw : WH G s (cW G K r D ((q17, .inl (G.2.2.1 0, 200, .inl (upd a z ((a z) + (oF (U.2 0) k 4))))) :: X)) H locs := hw
              refine lv_iload C.1 C.2.1 dL_book_178 (lv_at hl 6 rfl) ?_
              refine lv_icmp_ge (tgt := 246) C.1 C.2.1 dL_book_180 (by decide) (fun c_180 => absurd c_180 (q_inc hbk hk hk0)) (fun c_180 => ?_)
              refine lv_iload C.1 C.2.1 dL_book_183 (lv_at hl 4 rfl) ?_
              refine lv_iconst (v := 1) C.1 C.2.1 dL_book_185 (by decide) ?_
              refine lv_icmp_lt (tgt := 246) C.1 C.2.1 dL_book_186 (by decide) (fun c_186 => absurd c_186 ((q_bnd hbk hk).1.1)) (fun c_186 => ?_)
              refine lv_iload C.1 C.2.1 dL_book_189 (lv_at hl 4 rfl) ?_
              refine lv_bipush (v := 99) C.1 C.2.1 dL_book_191 (by decide) ?_
              refine lv_icmp_gt (tgt := 246) C.1 C.2.1 dL_book_193 (by decide) (fun c_193 => absurd c_193 ((q_bnd hbk hk).1.2)) (fun c_193 => ?_)
              refine lv_aload_n C.1 C.2.1 dL_book_196 rfl (lv_at hl 10 rfl) ?_
              refine lv_iload C.1 C.2.1 dL_book_197 (lv_at hl 6 rfl) ?_
              refine r_hsi C hw (a_quantityOf hF h (oF (U.2 0) k 0) (K := K) (r := r) (X := ((q17, .inl (G.2.2.1 0, 200, .inl (upd a z ((a z) + (oF (U.2 0) k 4))))) :: X))) ml_L_255 yf_L_quantityOf (As := [.ref (K 7 0), .int (oF (U.2 0) k 0)]) rfl rfl ⟨(Nat.le_of_ble_eq_true rfl), (Nat.le_of_ble_eq_true rfl)⟩ ⟨by show _ ≤ 900; omega, by show _ ≤ 5500; omega⟩ hl.1 (Nat.le_of_ble_eq_true rfl) dL_book_199 (fun r_199 _ H locs hp_199 hw => ?_)
              obtain rfl : r_199 = oF (U.2 0) k 4 := hp_199.trans (q_ov hbk hk 4 _)
              replace hw : WH G s (cW G K r D ((q17, .inl (G.2.2.1 0, 200, .inl (upd a z ((a z) + (oF (U.2 0) k 4))))) :: X)) H locs := hw
              refine lv_iconst (v := 1) C.1 C.2.1 dL_book_202 (by decide) ?_
              refine lv_icmp_lt (tgt := 246) C.1 C.2.1 dL_book_203 (by decide) (fun c_203 => absurd c_203 ((q_bnd hbk hk).2.1.1)) (fun c_203 => ?_)
              refine lv_aload_n C.1 C.2.1 dL_book_206 rfl (lv_at hl 10 rfl) ?_
              refine lv_iload C.1 C.2.1 dL_book_207 (lv_at hl 6 rfl) ?_
              refine r_hsi C hw (a_quantityOf hF h (oF (U.2 0) k 0) (K := K) (r := r) (X := ((q17, .inl (G.2.2.1 0, 200, .inl (upd a z ((a z) + (oF (U.2 0) k 4))))) :: X))) ml_L_255 yf_L_quantityOf (As := [.ref (K 7 0), .int (oF (U.2 0) k 0)]) rfl rfl ⟨(Nat.le_of_ble_eq_true rfl), (Nat.le_of_ble_eq_true rfl)⟩ ⟨by show _ ≤ 900; omega, by show _ ≤ 5500; omega⟩ hl.1 (Nat.le_of_ble_eq_true rfl) dL_book_209 (fun r_209 _ H locs hp_209 hw => ?_)
              obtain rfl : r_209 = oF (U.2 0) k 4 := hp_209.trans (q_ov hbk hk 4 _)
              replace hw : WH G s (cW G K r D ((q17, .inl (G.2.2.1 0, 200, .inl (upd a z ((a z) + (oF (U.2 0) k 4))))) :: X)) H locs := hw
              refine lv_bipush (v := 50) C.1 C.2.1 dL_book_212 (by decide) ?_
              refine lv_icmp_gt (tgt := 246) C.1 C.2.1 dL_book_214 (by decide) (fun c_214 => absurd c_214 ((q_bnd hbk hk).2.1.2)) (fun c_214 => ?_)
              refine lv_aload_n C.1 C.2.1 dL_book_217 rfl (lv_at hl 10 rfl) ?_
              refine lv_iload C.1 C.2.1 dL_book_218 (lv_at hl 6 rfl) ?_
              refine r_hsi C hw (a_stallOf hF h (oF (U.2 0) k 0) (K := K) (r := r) (X := ((q17, .inl (G.2.2.1 0, 200, .inl (upd a z ((a z) + (oF (U.2 0) k 4))))) :: X))) ml_L_259 yf_L_stallOf (As := [.ref (K 7 0), .int (oF (U.2 0) k 0)]) rfl rfl ⟨(Nat.le_of_ble_eq_true rfl), (Nat.le_of_ble_eq_true rfl)⟩ ⟨by show _ ≤ 900; omega, by show _ ≤ 5500; omega⟩ hl.1 (Nat.le_of_ble_eq_true rfl) dL_book_220 (fun r_220 _ H locs hp_220 hw => ?_)
              obtain rfl : r_220 = oF (U.2 0) k 1 := hp_220.trans (q_ov hbk hk 1 _)
              replace hw : WH G s (cW G K r D ((q17, .inl (G.2.2.1 0, 200, .inl (upd a z ((a z) + (oF (U.2 0) k 4))))) :: X)) H locs := hw
              refine lv_if_lt (tgt := 246) C.1 C.2.1 dL_book_223 (by decide) (fun c_223 => absurd c_223 ((q_bnd hbk hk).2.2)) (fun c_223 => ?_)
              refine lv_iload C.1 C.2.1 dL_book_226 (lv_at hl 0 rfl) ?_
              refine lv_bipush (v := -14) C.1 C.2.1 dL_book_228 (by decide) ?_
              refine lv_icmp_eq (tgt := 248) C.1 C.2.1 dL_book_230 (by decide) (fun c_230 => ?_) (fun c_230 => ?_)
              · refine lv_iinc (v := nI (k + 1)) (lv' := [(6, .int (nI (k + 1))), (10, .int (if oF (U.2 0) k 5 = 0 then -14 else oF (U.2 0) k 5)), (3, .int (bOrd (U.2 0) false (k + 1))), (2, .int (bOrd (U.2 0) true (k + 1))), (4, .int (bsF (U.2 0) (k + 1))), (9, .int (oF (U.2 0) k 3)), (8, .int 1), (7, .int (oF (U.2 0) k 0)), (5, .ref q17), (1, .int (nI (nF (U.2 0)))), (0, .ref (K 7 0))]) C.1 C.2.1 dL_book_248 hl (k := 7) rfl (nI_add k 1) (by decide) rfl (fun ls hl => ?_)
                refine lv_goto (tgt := 24) C.1 C.2.1 dL_book_251 (by decide) ?_
                exact W.widen (k := 10 + 24 * (k + 1)) (n := 300 + 144 * (k + 1)) (by omega) (by omega) (ih24 ⟨(k + 1), (upd a z ((a z) + (oF (U.2 0) k 4)))⟩ (⟨by omega, by omega, sumA_s true hb ⟨hz1, hz2⟩ hz3 ha rfl⟩) _ _ hw _ (lv_sub hl [0, 8, 4, 2, 3, 9, 10] rfl))
              · refine lv_iload C.1 C.2.1 dL_book_233 (lv_at hl 0 rfl) ?_
                refine lv_iconst (v := 1) C.1 C.2.1 dL_book_235 (by decide) ?_
                refine lv_icmp_lt (tgt := 246) C.1 C.2.1 dL_book_236 (by decide) (fun c_236 => absurd c_236 ((q_left hbk hk c_230).1)) (fun c_236 => ?_)
                refine lv_iload C.1 C.2.1 dL_book_239 (lv_at hl 0 rfl) ?_
                refine lv_bipush (v := 60) C.1 C.2.1 dL_book_241 (by decide) ?_
                refine lv_icmp_le (tgt := 248) C.1 C.2.1 dL_book_243 (by decide) (fun c_243 => ?_) (fun c_243 => absurd ((q_left hbk hk c_230).2) c_243)
                refine lv_iinc (v := nI (k + 1)) (lv' := [(6, .int (nI (k + 1))), (10, .int (if oF (U.2 0) k 5 = 0 then -14 else oF (U.2 0) k 5)), (3, .int (bOrd (U.2 0) false (k + 1))), (2, .int (bOrd (U.2 0) true (k + 1))), (4, .int (bsF (U.2 0) (k + 1))), (9, .int (oF (U.2 0) k 3)), (8, .int 1), (7, .int (oF (U.2 0) k 0)), (5, .ref q17), (1, .int (nI (nF (U.2 0)))), (0, .ref (K 7 0))]) C.1 C.2.1 dL_book_248 hl (k := 7) rfl (nI_add k 1) (by decide) rfl (fun ls hl => ?_)
                refine lv_goto (tgt := 24) C.1 C.2.1 dL_book_251 (by decide) ?_
                exact W.widen (k := 10 + 24 * (k + 1)) (n := 300 + 144 * (k + 1)) (by omega) (by omega) (ih24 ⟨(k + 1), (upd a z ((a z) + (oF (U.2 0) k 4)))⟩ (⟨by omega, by omega, sumA_s true hb ⟨hz1, hz2⟩ hz3 ha rfl⟩) _ _ hw _ (lv_sub hl [0, 8, 4, 2, 3, 9, 10] rfl))
  · rintro ⟨k, a⟩ ⟨hk8, hk9, ha⟩; omega

