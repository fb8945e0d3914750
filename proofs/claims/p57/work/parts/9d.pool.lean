/-! The law: pool -/
set_option maxHeartbeats 4000000 in
set_option maxRecDepth 100000 in
theorem k_pool {l : Launch} {G : Gx} (hF : SF l G) {c9 : Int} {D : CD} {U : MV_} (h : Sm c9 D U) {K r : Nat → Nat → Nat} {X : va_W} : MI l G yL_pool cL_pool 10 .boolean 12 25300 152000 [.ref (K 7 0)] (cW G K r D X) (fun v (D2 : CD) => v = 1 ∧ D2.S = D.S ∧ Sm c9 D2 U) (fun D2 : CD => cW G K r D2 X) := by
  refine mt_of hF (by decide) (Nat.le_of_ble_eq_true rfl) ?_
  intro p e s m below meth c0 C hin ls hl H locs hw
  have hl : lv_has ls 10 [(0, .ref (K 7 0))] := hl
  have hok := h.okf
  have hbk := h.iz.1
  have h6 := hok.2.2.2.1
  have h20 := hok.2.1
  refine lv_bipush (v := -13) C.1 C.2.1 dL_pool_0 (by decide) ?_
  refine lv_istore_n (lv' := [(1, .int (-13)), (0, .ref (K 7 0))]) C.1 C.2.1 dL_pool_2 rfl hl (by decide) rfl (fun ls hl => ?_)
  refine lv_iconst (v := 0) C.1 C.2.1 dL_pool_3 (by decide) ?_
  refine lv_istore_n (lv' := [(2, .int 0), (1, .int (-13)), (0, .ref (K 7 0))]) C.1 C.2.1 dL_pool_4 rfl hl (by decide) rfl (fun ls hl => ?_)
  refine lv_iconst (v := 0) C.1 C.2.1 dL_pool_5 (by decide) ?_
  refine lv_istore_n (lv' := [(3, .int 0), (2, .int 0), (1, .int (-13)), (0, .ref (K 7 0))]) C.1 C.2.1 dL_pool_6 rfl hl (by decide) rfl (fun ls hl => ?_)
  refine lv_bipush (v := 99) C.1 C.2.1 dL_pool_7 (by decide) ?_
  refine lv_istore (lv' := [(4, .int 99), (3, .int 0), (2, .int 0), (1, .int (-13)), (0, .ref (K 7 0))]) C.1 C.2.1 dL_pool_9 hl (by decide) rfl (fun ls hl => ?_)
  refine W.widen (k := 250 * 0) (n := 1500 * 0) (by omega) (by omega) ?_
  refine w_loop (σ := Nat) G (fun u t => t ≤ 99 ∧ t + u = 100) (fun t => cW G K r D X) (fun t => 250 * t) (fun t => 1500 * t) (fun t => [(4, .int (nI (99 - t))), (3, .int ((dsR (U.2 0) t).2.2)), (2, .int ((dsR (U.2 0) t).2.1)), (1, .int ((dsR (U.2 0) t).1)), (0, .ref (K 7 0))]) 10 ?_ ?_ 100 0 (by omega) hw (lv_sub hl [0, 1, 2, 3, 4] rfl)
  · rintro n11 t ht9 ih11 H locs hw ls hl
    replace hw : WH G s (cW G K r D X) H locs := hw
    replace hl : lv_has ls 10 [(4, .int (nI (99 - t))), (3, .int ((dsR (U.2 0) t).2.2)), (2, .int ((dsR (U.2 0) t).2.1)), (1, .int ((dsR (U.2 0) t).1)), (0, .ref (K 7 0))] := hl
    show W p l e _ s m _ below meth c0 H locs (250 * t) (1500 * t) _ (F0 m 11 ls [])
    refine lv_iload C.1 C.2.1 dL_pool_11 (lv_at hl 0 rfl) ?_
    refine lv_if_le (tgt := 205) C.1 C.2.1 dL_pool_13 (by decide) (fun c_13 => ?_) (fun c_13 => ?_)
    · obtain rfl : t = 99 := by rw [i_le, i_0, i_nI (by omega)] at c_13; omega
      refine lv_aload_n C.1 C.2.1 dL_pool_205 rfl (lv_at hl 4 rfl) ?_
      refine d_tradeCount C hw h ml_L_279 ⟨(Nat.le_of_ble_eq_true rfl), (Nat.le_of_ble_eq_true rfl)⟩ ⟨by show _ ≤ 25300; omega, by show _ ≤ 152000; omega⟩ hl.1 (Nat.le_of_ble_eq_true rfl) dL_pool_206 (fun H locs hw => ?_)
      refine w_join (σ := Int32) G (pc1 := 236) (fun v6 => v6 = 1) (fun _ => cW G K r D X) (fun _ => 250 * 99 + 2) (fun _ => 1500 * 99 + 12) (fun _ => [(4, .int (nI (99 - 99))), (3, .int ((dsR (U.2 0) 99).2.2)), (2, .int ((dsR (U.2 0) 99).2.1)), (1, .int ((dsR (U.2 0) 99).1)), (0, .ref (K 7 0))]) (fun v6 => [.int v6]) 10 (fun cont236 => ?_) ?_
      · refine lv_if_eq (tgt := 231) C.1 C.2.1 dL_pool_209 (by decide) (fun c_209 => ?_) (fun c_209 => ?_)
        · refine lv_iconst (v := 1) C.1 C.2.1 dL_pool_231 (by decide) ?_
          refine lv_goto (tgt := 236) C.1 C.2.1 dL_pool_232 (by decide) ?_
          exact W.widen (k := 250 * 99 + 2) (n := 1500 * 99 + 12) (by omega) (by omega) (cont236 1 (rfl) _ _ hw _ (lv_sub hl [0, 1, 2, 3, 4] rfl))
        · have h7 := (q_67 h).2.2 c_209
          refine lv_aload_n C.1 C.2.1 dL_pool_212 rfl (lv_at hl 4 rfl) ?_
          refine d_meanPrice C hw h c_209 ml_L_282 ⟨(Nat.le_of_ble_eq_true rfl), (Nat.le_of_ble_eq_true rfl)⟩ ⟨by show _ ≤ 25300; omega, by show _ ≤ 152000; omega⟩ hl.1 (Nat.le_of_ble_eq_true rfl) dL_pool_213 (fun H locs hw => ?_)
          refine lv_aload_n C.1 C.2.1 dL_pool_216 rfl (lv_at hl 4 rfl) ?_
          refine d_turnover C hw h ml_L_286 ⟨(Nat.le_of_ble_eq_true rfl), (Nat.le_of_ble_eq_true rfl)⟩ ⟨by show _ ≤ 25300; omega, by show _ ≤ 152000; omega⟩ hl.1 (Nat.le_of_ble_eq_true rfl) dL_pool_217 (fun H locs hw => ?_)
          refine lv_l2d C.1 C.2.1 dL_pool_220 ?_
          rw [fp_l2d]
          refine lv_aload_n C.1 C.2.1 dL_pool_221 rfl (lv_at hl 4 rfl) ?_
          refine d_tradedQuantity C hw h ml_L_290 ⟨(Nat.le_of_ble_eq_true rfl), (Nat.le_of_ble_eq_true rfl)⟩ ⟨by show _ ≤ 25300; omega, by show _ ≤ 152000; omega⟩ hl.1 (Nat.le_of_ble_eq_true rfl) dL_pool_222 (fun H locs hw => ?_)
          refine lv_i2d C.1 C.2.1 dL_pool_225 ?_
          refine lv_ddiv C.1 C.2.1 dL_pool_226 (fp_ddiv _ _ h7) ?_
          refine lv_dcmp C.1 C.2.1 dL_pool_227 ?_
          rw [q_dd h7]
          show W p l e _ s m _ below meth c0 H locs _ _ _ (F0 m 228 ls [.int 0])
          refine lv_if_ne (tgt := 235) C.1 C.2.1 dL_pool_228 (by decide) (fun c_228 => absurd (rfl) c_228) (fun c_228 => ?_)
          refine lv_iconst (v := 1) C.1 C.2.1 dL_pool_231 (by decide) ?_
          refine lv_goto (tgt := 236) C.1 C.2.1 dL_pool_232 (by decide) ?_
          exact W.widen (k := 250 * 99 + 2) (n := 1500 * 99 + 12) (by omega) (by omega) (cont236 1 (rfl) _ _ hw _ (lv_sub hl [0, 1, 2, 3, 4] rfl))
      · intro v6 hv6 H locs hw ls hl
        replace hw : WH G s (cW G K r D X) H locs := hw
        replace hl : lv_has ls 10 [(4, .int (nI (99 - 99))), (3, .int ((dsR (U.2 0) 99).2.2)), (2, .int ((dsR (U.2 0) 99).2.1)), (1, .int ((dsR (U.2 0) 99).1)), (0, .ref (K 7 0))] := hl
        show W p l e _ s m _ below meth c0 H locs (250 * 99 + 2) (1500 * 99 + 12) _ (F0 m 236 ls [.int v6])
        subst hv6
        refine lv_istore (lv' := [(4, .int (1)), (3, .int ((dsR (U.2 0) 99).2.2)), (2, .int ((dsR (U.2 0) 99).2.1)), (1, .int ((dsR (U.2 0) 99).1)), (0, .ref (K 7 0))]) C.1 C.2.1 dL_pool_236 hl (by decide) rfl (fun ls hl => ?_)
        refine lv_aload_n C.1 C.2.1 dL_pool_238 rfl (lv_at hl 4 rfl) ?_
        refine d_tradeCount C hw h ml_L_279 ⟨(Nat.le_of_ble_eq_true rfl), (Nat.le_of_ble_eq_true rfl)⟩ ⟨by show _ ≤ 25300; omega, by show _ ≤ 152000; omega⟩ hl.1 (Nat.le_of_ble_eq_true rfl) dL_pool_239 (fun H locs hw => ?_)
        refine w_join (σ := Int32) G (pc1 := 250) (fun v7 => v7 = (if U.2 0 6 = 0 then 1 else 0)) (fun _ => cW G K r D X) (fun _ => 250 * 99 + 2) (fun _ => 1500 * 99 + 12) (fun _ => [(4, .int (1)), (3, .int ((dsR (U.2 0) 99).2.2)), (2, .int ((dsR (U.2 0) 99).2.1)), (1, .int ((dsR (U.2 0) 99).1)), (0, .ref (K 7 0))]) (fun v7 => [.int v7]) 10 (fun cont250 => ?_) ?_
        · refine lv_if_ne (tgt := 249) C.1 C.2.1 dL_pool_242 (by decide) (fun c_242 => ?_) (fun c_242 => ?_)
          · refine lv_iconst (v := 0) C.1 C.2.1 dL_pool_249 (by decide) ?_
            exact W.widen (k := 250 * 99 + 2) (n := 1500 * 99 + 12) (by omega) (by omega) (cont250 0 ((if_neg c_242).symm) _ _ hw _ (lv_sub hl [0, 1, 2, 3, 4] rfl))
          · refine lv_iconst (v := 1) C.1 C.2.1 dL_pool_245 (by decide) ?_
            refine lv_goto (tgt := 250) C.1 C.2.1 dL_pool_246 (by decide) ?_
            exact W.widen (k := 250 * 99 + 2) (n := 1500 * 99 + 12) (by omega) (by omega) (cont250 1 ((if_pos c_242).symm) _ _ hw _ (lv_sub hl [0, 1, 2, 3, 4] rfl))
        · intro v7 hv7 H locs hw ls hl
          replace hw : WH G s (cW G K r D X) H locs := hw
          replace hl : lv_has ls 10 [(4, .int (1)), (3, .int ((dsR (U.2 0) 99).2.2)), (2, .int ((dsR (U.2 0) 99).2.1)), (1, .int ((dsR (U.2 0) 99).1)), (0, .ref (K 7 0))] := hl
          show W p l e _ s m _ below meth c0 H locs (250 * 99 + 2) (1500 * 99 + 12) _ (F0 m 250 ls [.int v7])
          subst hv7
          refine lv_aload_n C.1 C.2.1 dL_pool_250 rfl (lv_at hl 4 rfl) ?_
          refine r_hsi C hw (a_lastPrice hF h (K := K) (r := r) (X := X)) ml_L_293 yf_L_lastPrice (As := [.ref (K 7 0)]) rfl rfl ⟨(Nat.le_of_ble_eq_true rfl), (Nat.le_of_ble_eq_true rfl)⟩ ⟨by show _ ≤ 25300; omega, by show _ ≤ 152000; omega⟩ hl.1 (Nat.le_of_ble_eq_true rfl) dL_pool_251 (fun r_251 _ H locs hp_251 hw => ?_)
          obtain rfl : r_251 = (if laB (U.2 0) = true then U.2 0 5 else -13) := hp_251.trans (rfl)
          replace hw : WH G s (cW G K r D X) H locs := hw
          refine lv_bipush (v := -13) C.1 C.2.1 dL_pool_254 (by decide) ?_
          refine w_join (σ := Int32) G (pc1 := 264) (fun v8 => v8 = (if U.2 0 6 = 0 then 1 else 0)) (fun _ => cW G K r D X) (fun _ => 250 * 99 + 2 + 1) (fun _ => 1500 * 99 + 12 + 6) (fun _ => [(4, .int (1)), (3, .int ((dsR (U.2 0) 99).2.2)), (2, .int ((dsR (U.2 0) 99).2.1)), (1, .int ((dsR (U.2 0) 99).1)), (0, .ref (K 7 0))]) (fun v8 => [.int v8, .int (if U.2 0 6 = 0 then 1 else 0)]) 10 (fun cont264 => ?_) ?_
          · refine lv_icmp_ne (tgt := 263) C.1 C.2.1 dL_pool_256 (by decide) (fun c_256 => ?_) (fun c_256 => ?_)
            · refine lv_iconst (v := 0) C.1 C.2.1 dL_pool_263 (by decide) ?_
              exact W.widen (k := 250 * 99 + 2 + 1) (n := 1500 * 99 + 12 + 6) (by omega) (by omega) (cont264 0 ((if_neg (fun q9 => c_256 ((q_ll h).mpr q9))).symm) _ _ hw _ (lv_sub hl [0, 1, 2, 3, 4] rfl))
            · refine lv_iconst (v := 1) C.1 C.2.1 dL_pool_259 (by decide) ?_
              refine lv_goto (tgt := 264) C.1 C.2.1 dL_pool_260 (by decide) ?_
              exact W.widen (k := 250 * 99 + 2 + 1) (n := 1500 * 99 + 12 + 6) (by omega) (by omega) (cont264 1 ((if_pos ((q_ll h).mp c_256)).symm) _ _ hw _ (lv_sub hl [0, 1, 2, 3, 4] rfl))
          · intro v8 hv8 H locs hw ls hl
            replace hw : WH G s (cW G K r D X) H locs := hw
            replace hl : lv_has ls 10 [(4, .int (1)), (3, .int ((dsR (U.2 0) 99).2.2)), (2, .int ((dsR (U.2 0) 99).2.1)), (1, .int ((dsR (U.2 0) 99).1)), (0, .ref (K 7 0))] := hl
            show W p l e _ s m _ below meth c0 H locs (250 * 99 + 2 + 1) (1500 * 99 + 12 + 6) _ (F0 m 264 ls [.int v8, .int (if U.2 0 6 = 0 then 1 else 0)])
            subst hv8
            refine lv_icmp_ne (tgt := 295) C.1 C.2.1 dL_pool_264 (by decide) (fun c_264 => absurd (rfl) c_264) (fun c_264 => ?_)
            refine lv_aload_n C.1 C.2.1 dL_pool_267 rfl (lv_at hl 4 rfl) ?_
            refine d_tradedQuantity C hw h ml_L_290 ⟨(Nat.le_of_ble_eq_true rfl), (Nat.le_of_ble_eq_true rfl)⟩ ⟨by show _ ≤ 25300; omega, by show _ ≤ 152000; omega⟩ hl.1 (Nat.le_of_ble_eq_true rfl) dL_pool_268 (fun H locs hw => ?_)
            refine lv_aload_n C.1 C.2.1 dL_pool_271 rfl (lv_at hl 4 rfl) ?_
            refine d_tradeCount C hw h ml_L_279 ⟨(Nat.le_of_ble_eq_true rfl), (Nat.le_of_ble_eq_true rfl)⟩ ⟨by show _ ≤ 25300; omega, by show _ ≤ 152000; omega⟩ hl.1 (Nat.le_of_ble_eq_true rfl) dL_pool_272 (fun H locs hw => ?_)
            refine lv_icmp_lt (tgt := 295) C.1 C.2.1 dL_pool_275 (by decide) (fun c_275 => absurd c_275 ((q_67 h).1)) (fun c_275 => ?_)
            refine lv_aload_n C.1 C.2.1 dL_pool_278 rfl (lv_at hl 4 rfl) ?_
            refine d_turnover C hw h ml_L_286 ⟨(Nat.le_of_ble_eq_true rfl), (Nat.le_of_ble_eq_true rfl)⟩ ⟨by show _ ≤ 25300; omega, by show _ ≤ 152000; omega⟩ hl.1 (Nat.le_of_ble_eq_true rfl) dL_pool_279 (fun H locs hw => ?_)
            refine lv_aload_n C.1 C.2.1 dL_pool_282 rfl (lv_at hl 4 rfl) ?_
            refine d_tradedQuantity C hw h ml_L_290 ⟨(Nat.le_of_ble_eq_true rfl), (Nat.le_of_ble_eq_true rfl)⟩ ⟨by show _ ≤ 25300; omega, by show _ ≤ 152000; omega⟩ hl.1 (Nat.le_of_ble_eq_true rfl) dL_pool_283 (fun H locs hw => ?_)
            refine lv_i2l (v := (U.2 0 7).toInt64) C.1 C.2.1 dL_pool_286 rfl ?_
            refine W.lcmp C.1 C.2.1 dL_pool_287 ?_
            refine lv_if_lt (tgt := 295) C.1 C.2.1 dL_pool_288 (by decide) (fun c_288 => absurd c_288 ((q_67 h).2.1)) (fun c_288 => ?_)
            refine lv_iconst (v := 1) C.1 C.2.1 dL_pool_291 (by decide) ?_
            refine lv_goto (tgt := 296) C.1 C.2.1 dL_pool_292 (by decide) ?_
            refine lv_istore (lv' := [(5, .int 1), (4, .int (1)), (3, .int ((dsR (U.2 0) 99).2.2)), (2, .int ((dsR (U.2 0) 99).2.1)), (1, .int ((dsR (U.2 0) 99).1)), (0, .ref (K 7 0))]) C.1 C.2.1 dL_pool_296 hl (by decide) rfl (fun ls hl => ?_)
            refine lv_aload_n C.1 C.2.1 dL_pool_298 rfl (lv_at hl 5 rfl) ?_
            refine r_hsi C hw (a_poolPrice hF h (K := K) (r := r) (X := X)) ml_L_295 yf_L_poolPrice (As := [.ref (K 7 0)]) rfl rfl ⟨(Nat.le_of_ble_eq_true rfl), (Nat.le_of_ble_eq_true rfl)⟩ ⟨by show _ ≤ 25300; omega, by show _ ≤ 152000; omega⟩ hl.1 (Nat.le_of_ble_eq_true rfl) dL_pool_299 (fun r_299 _ H locs hp_299 hw => ?_)
            obtain rfl : r_299 = ((dsR (U.2 0) 99).1) := hp_299.trans (q_po)
            replace hw : WH G s (cW G K r D X) H locs := hw
            refine lv_iload_n C.1 C.2.1 dL_pool_302 rfl (lv_at hl 4 rfl) ?_
            refine lv_icmp_ne (tgt := 356) C.1 C.2.1 dL_pool_303 (by decide) (fun c_303 => absurd (rfl) c_303) (fun c_303 => ?_)
            refine lv_aload_n C.1 C.2.1 dL_pool_306 rfl (lv_at hl 5 rfl) ?_
            refine r_hsi C hw (a_poolBySums hF h (K := K) (r := r) (X := X)) ml_L_297 yf_L_poolBySums (As := [.ref (K 7 0)]) rfl rfl ⟨(Nat.le_of_ble_eq_true rfl), (Nat.le_of_ble_eq_true rfl)⟩ ⟨by show _ ≤ 25300; omega, by show _ ≤ 152000; omega⟩ hl.1 (Nat.le_of_ble_eq_true rfl) dL_pool_307 (fun r_307 _ H locs hp_307 hw => ?_)
            obtain rfl : r_307 = ((dsR (U.2 0) 99).1) := hp_307.trans (q_po)
            replace hw : WH G s (cW G K r D.sg X) H locs := hw
            have h2 : Sm c9 D.sg U := h.su _ _
            refine lv_iload_n C.1 C.2.1 dL_pool_310 rfl (lv_at hl 4 rfl) ?_
            refine lv_icmp_ne (tgt := 356) C.1 C.2.1 dL_pool_311 (by decide) (fun c_311 => absurd (rfl) c_311) (fun c_311 => ?_)
            refine lv_iload C.1 C.2.1 dL_pool_314 (lv_at hl 1 rfl) ?_
            refine lv_if_eq (tgt := 356) C.1 C.2.1 dL_pool_316 (by decide) (fun c_316 => absurd c_316 (by decide)) (fun c_316 => ?_)
            refine lv_iload C.1 C.2.1 dL_pool_319 (lv_at hl 0 rfl) ?_
            refine lv_if_eq (tgt := 356) C.1 C.2.1 dL_pool_321 (by decide) (fun c_321 => absurd c_321 (by decide)) (fun c_321 => ?_)
            refine lv_aload_n C.1 C.2.1 dL_pool_324 rfl (lv_at hl 5 rfl) ?_
            refine lv_iconst (v := 0) C.1 C.2.1 dL_pool_325 (by decide) ?_
            refine r_hsi C hw (a_volumeAt hF h2 0 (K := K) (r := r) (X := X)) ml_L_277 yf_L_volumeAt (As := [.ref (K 7 0), .int 0]) rfl rfl ⟨(Nat.le_of_ble_eq_true rfl), (Nat.le_of_ble_eq_true rfl)⟩ ⟨by show _ ≤ 25300; omega, by show _ ≤ 152000; omega⟩ hl.1 (Nat.le_of_ble_eq_true rfl) dL_pool_326 (fun r_326 _ H locs hp_326 hw => ?_)
            obtain rfl : r_326 = (-12) := hp_326.trans (if_neg (by decide))
            replace hw : WH G s (cW G K r D.sg X) H locs := hw
            refine lv_bipush (v := -12) C.1 C.2.1 dL_pool_329 (by decide) ?_
            refine lv_icmp_ne (tgt := 356) C.1 C.2.1 dL_pool_331 (by decide) (fun c_331 => absurd (rfl) c_331) (fun c_331 => ?_)
            refine lv_aload_n C.1 C.2.1 dL_pool_334 rfl (lv_at hl 5 rfl) ?_
            refine lv_bipush (v := 100) C.1 C.2.1 dL_pool_335 (by decide) ?_
            refine r_hsi C hw (a_volumeAt hF h2 100 (K := K) (r := r) (X := X)) ml_L_277 yf_L_volumeAt (As := [.ref (K 7 0), .int 100]) rfl rfl ⟨(Nat.le_of_ble_eq_true rfl), (Nat.le_of_ble_eq_true rfl)⟩ ⟨by show _ ≤ 25300; omega, by show _ ≤ 152000; omega⟩ hl.1 (Nat.le_of_ble_eq_true rfl) dL_pool_337 (fun r_337 _ H locs hp_337 hw => ?_)
            obtain rfl : r_337 = (-12) := hp_337.trans (if_neg (by decide))
            replace hw : WH G s (cW G K r D.sg X) H locs := hw
            refine lv_bipush (v := -12) C.1 C.2.1 dL_pool_340 (by decide) ?_
            refine lv_icmp_ne (tgt := 356) C.1 C.2.1 dL_pool_342 (by decide) (fun c_342 => absurd (rfl) c_342) (fun c_342 => ?_)
            refine lv_aload_n C.1 C.2.1 dL_pool_345 rfl (lv_at hl 5 rfl) ?_
            refine d_isConsistent (D := D.sg) C hw h2 ml_L_300 ⟨(Nat.le_of_ble_eq_true rfl), (Nat.le_of_ble_eq_true rfl)⟩ ⟨by show _ ≤ 25300; omega, by show _ ≤ 152000; omega⟩ hl.1 (Nat.le_of_ble_eq_true rfl) dL_pool_346 (fun H locs hw => ?_)
            replace hw : WH G s (cW G K r D.sg.sg X) H locs := hw
            refine lv_if_eq (tgt := 356) C.1 C.2.1 dL_pool_349 (by decide) (fun c_349 => absurd c_349 (by decide)) (fun c_349 => ?_)
            refine lv_iconst (v := 1) C.1 C.2.1 dL_pool_352 (by decide) ?_
            refine lv_goto (tgt := 357) C.1 C.2.1 dL_pool_353 (by decide) ?_
            exact r_iret C hw rfl rfl D.sg.sg (⟨rfl, rfl, h2.su _ _⟩) rfl (by show _ ≤ 25300; omega) (by show _ ≤ 152000; omega) dL_pool_357
    · have ht : t < 99 := by rw [i_le, i_0, i_nI (by omega)] at c_13; omega
      refine lv_iconst (v := 0) C.1 C.2.1 dL_pool_16 (by decide) ?_
      refine r_toe (show _ = smF (U.2 0) true (nI (99 - t)) (nI 0) (nF (U.2 0)) from ((q_z0 hbk (x := 99 - t) (by omega)).1).symm) ?_
      refine lv_istore (lv' := [(5, .int (smF (U.2 0) true (nI (99 - t)) (nI 0) (nF (U.2 0)))), (4, .int (nI (99 - t))), (3, .int ((dsR (U.2 0) t).2.2)), (2, .int ((dsR (U.2 0) t).2.1)), (1, .int ((dsR (U.2 0) t).1)), (0, .ref (K 7 0))]) C.1 C.2.1 dL_pool_17 hl (by decide) rfl (fun ls hl => ?_)
      refine lv_iconst (v := 0) C.1 C.2.1 dL_pool_19 (by decide) ?_
      refine r_toe (show _ = smF (U.2 0) false 1 (nI (min 0 (99 - t))) (nF (U.2 0)) from ((q_z0 hbk (x := 99 - t) (by omega)).2).symm) ?_
      refine lv_istore (lv' := [(6, .int (smF (U.2 0) false 1 (nI (min 0 (99 - t))) (nF (U.2 0)))), (5, .int (smF (U.2 0) true (nI (99 - t)) (nI 0) (nF (U.2 0)))), (4, .int (nI (99 - t))), (3, .int ((dsR (U.2 0) t).2.2)), (2, .int ((dsR (U.2 0) t).2.1)), (1, .int ((dsR (U.2 0) t).1)), (0, .ref (K 7 0))]) C.1 C.2.1 dL_pool_20 hl (by decide) rfl (fun ls hl => ?_)
      refine lv_iconst (v := 1) C.1 C.2.1 dL_pool_22 (by decide) ?_
      refine lv_istore (lv' := [(7, .int 1), (6, .int (smF (U.2 0) false 1 (nI (min 0 (99 - t))) (nF (U.2 0)))), (5, .int (smF (U.2 0) true (nI (99 - t)) (nI 0) (nF (U.2 0)))), (4, .int (nI (99 - t))), (3, .int ((dsR (U.2 0) t).2.2)), (2, .int ((dsR (U.2 0) t).2.1)), (1, .int ((dsR (U.2 0) t).1)), (0, .ref (K 7 0))]) C.1 C.2.1 dL_pool_23 hl (by decide) rfl (fun ls hl => ?_)
      refine W.widen (k := 250 * t + 5 + 2 * 0) (n := 1500 * t + 30 + 12 * 0) (by omega) (by omega) ?_
      refine w_loop (σ := Nat) G (fun u k => k ≤ 99 ∧ k + u = 100) (fun k => cW G K r D X) (fun k => 250 * t + 5 + 2 * k) (fun k => 1500 * t + 30 + 12 * k) (fun k => [(7, .int (nI (k + 1))), (6, .int (smF (U.2 0) false 1 (nI (min k (99 - t))) (nF (U.2 0)))), (5, .int (smF (U.2 0) true (nI (99 - t)) (nI k) (nF (U.2 0)))), (4, .int (nI (99 - t))), (3, .int ((dsR (U.2 0) t).2.2)), (2, .int ((dsR (U.2 0) t).2.1)), (1, .int ((dsR (U.2 0) t).1)), (0, .ref (K 7 0))]) 10 ?_ ?_ 100 0 (by omega) hw (lv_sub hl [0, 1, 2, 3, 4, 5, 6, 7] rfl)
      · rintro n25 k hk9 ih25 H locs hw ls hl
        replace hw : WH G s (cW G K r D X) H locs := hw
        replace hl : lv_has ls 10 [(7, .int (nI (k + 1))), (6, .int (smF (U.2 0) false 1 (nI (min k (99 - t))) (nF (U.2 0)))), (5, .int (smF (U.2 0) true (nI (99 - t)) (nI k) (nF (U.2 0)))), (4, .int (nI (99 - t))), (3, .int ((dsR (U.2 0) t).2.2)), (2, .int ((dsR (U.2 0) t).2.1)), (1, .int ((dsR (U.2 0) t).1)), (0, .ref (K 7 0))] := hl
        show W p l e _ s m _ below meth c0 H locs (250 * t + 5 + 2 * k) (1500 * t + 30 + 12 * k) _ (F0 m 25 ls [])
        refine lv_iload C.1 C.2.1 dL_pool_25 (lv_at hl 0 rfl) ?_
        refine lv_bipush (v := 100) C.1 C.2.1 dL_pool_27 (by decide) ?_
        refine lv_icmp_ge (tgt := 82) C.1 C.2.1 dL_pool_29 (by decide) (fun c_29 => ?_) (fun c_29 => ?_)
        · obtain rfl : k = 99 := by rw [i_le, i_nI (by omega), show (100 : Int32).toInt = 100 by decide] at c_29; omega
          rw [show min 99 (99 - t) = 99 - t by omega] at hl
          refine lv_iload C.1 C.2.1 dL_pool_82 (lv_at hl 2 rfl) ?_
          refine lv_iload C.1 C.2.1 dL_pool_84 (lv_at hl 1 rfl) ?_
          refine w_join (σ := Int32) G (pc1 := 96) (fun v3 => v3 = voF (U.2 0) (nF (U.2 0)) (nI (99 - t))) (fun _ => cW G K r D X) (fun _ => 250 * t + 5 + 2 * 99) (fun _ => 1500 * t + 30 + 12 * 99) (fun _ => [(7, .int (nI (99 + 1))), (6, .int (smF (U.2 0) false 1 (nI (99 - t)) (nF (U.2 0)))), (5, .int (smF (U.2 0) true (nI (99 - t)) 99 (nF (U.2 0)))), (4, .int (nI (99 - t))), (3, .int ((dsR (U.2 0) t).2.2)), (2, .int ((dsR (U.2 0) t).2.1)), (1, .int ((dsR (U.2 0) t).1)), (0, .ref (K 7 0))]) (fun v3 => [.int v3]) 10 (fun cont96 => ?_) ?_
          · refine lv_icmp_ge (tgt := 94) C.1 C.2.1 dL_pool_86 (by decide) (fun c_86 => ?_) (fun c_86 => ?_)
            · refine lv_iload C.1 C.2.1 dL_pool_94 (lv_at hl 1 rfl) ?_
              exact W.widen (k := 250 * t + 5 + 2 * 99) (n := 1500 * t + 30 + 12 * 99) (by omega) (by omega) (cont96 (smF (U.2 0) false 1 (nI (99 - t)) (nF (U.2 0))) (((q_vs (nI (99 - t))).1 c_86).1.symm) _ _ hw _ (lv_sub hl [0, 1, 2, 3, 4, 5, 6, 7] rfl))
            · refine lv_iload C.1 C.2.1 dL_pool_89 (lv_at hl 2 rfl) ?_
              refine lv_goto (tgt := 96) C.1 C.2.1 dL_pool_91 (by decide) ?_
              exact W.widen (k := 250 * t + 5 + 2 * 99) (n := 1500 * t + 30 + 12 * 99) (by omega) (by omega) (cont96 (smF (U.2 0) true (nI (99 - t)) 99 (nF (U.2 0))) (((q_vs (nI (99 - t))).2 c_86).1.symm) _ _ hw _ (lv_sub hl [0, 1, 2, 3, 4, 5, 6, 7] rfl))
          · intro v3 hv3 H locs hw ls hl
            replace hw : WH G s (cW G K r D X) H locs := hw
            replace hl : lv_has ls 10 [(7, .int (nI (99 + 1))), (6, .int (smF (U.2 0) false 1 (nI (99 - t)) (nF (U.2 0)))), (5, .int (smF (U.2 0) true (nI (99 - t)) 99 (nF (U.2 0)))), (4, .int (nI (99 - t))), (3, .int ((dsR (U.2 0) t).2.2)), (2, .int ((dsR (U.2 0) t).2.1)), (1, .int ((dsR (U.2 0) t).1)), (0, .ref (K 7 0))] := hl
            show W p l e _ s m _ below meth c0 H locs (250 * t + 5 + 2 * 99) (1500 * t + 30 + 12 * 99) _ (F0 m 96 ls [.int v3])
            subst hv3
            refine lv_istore (lv' := [(7, .int (voF (U.2 0) (nF (U.2 0)) (nI (99 - t)))), (6, .int (smF (U.2 0) false 1 (nI (99 - t)) (nF (U.2 0)))), (5, .int (smF (U.2 0) true (nI (99 - t)) 99 (nF (U.2 0)))), (4, .int (nI (99 - t))), (3, .int ((dsR (U.2 0) t).2.2)), (2, .int ((dsR (U.2 0) t).2.1)), (1, .int ((dsR (U.2 0) t).1)), (0, .ref (K 7 0))]) C.1 C.2.1 dL_pool_96 hl (by decide) rfl (fun ls hl => ?_)
            refine lv_iload C.1 C.2.1 dL_pool_98 (lv_at hl 2 rfl) ?_
            refine lv_iload C.1 C.2.1 dL_pool_100 (lv_at hl 1 rfl) ?_
            refine w_join (σ := Int32) G (pc1 := 118) (fun v4 => v4 = spF (U.2 0) (nI (99 - t))) (fun _ => cW G K r D X) (fun _ => 250 * t + 5 + 2 * 99) (fun _ => 1500 * t + 30 + 12 * 99) (fun _ => [(7, .int (voF (U.2 0) (nF (U.2 0)) (nI (99 - t)))), (6, .int (smF (U.2 0) false 1 (nI (99 - t)) (nF (U.2 0)))), (5, .int (smF (U.2 0) true (nI (99 - t)) 99 (nF (U.2 0)))), (4, .int (nI (99 - t))), (3, .int ((dsR (U.2 0) t).2.2)), (2, .int ((dsR (U.2 0) t).2.1)), (1, .int ((dsR (U.2 0) t).1)), (0, .ref (K 7 0))]) (fun v4 => [.int v4]) 10 (fun cont118 => ?_) ?_
            · refine lv_icmp_ge (tgt := 113) C.1 C.2.1 dL_pool_102 (by decide) (fun c_102 => ?_) (fun c_102 => ?_)
              · refine lv_iload C.1 C.2.1 dL_pool_113 (lv_at hl 2 rfl) ?_
                refine lv_iload C.1 C.2.1 dL_pool_115 (lv_at hl 1 rfl) ?_
                refine lv_isub C.1 C.2.1 dL_pool_117 ?_
                exact W.widen (k := 250 * t + 5 + 2 * 99) (n := 1500 * t + 30 + 12 * 99) (by omega) (by omega) (cont118 (smF (U.2 0) true (nI (99 - t)) 99 (nF (U.2 0)) - smF (U.2 0) false 1 (nI (99 - t)) (nF (U.2 0))) (((q_vs (nI (99 - t))).1 c_102).2.symm) _ _ hw _ (lv_sub hl [0, 1, 2, 3, 4, 5, 6, 7] rfl))
              · refine lv_iload C.1 C.2.1 dL_pool_105 (lv_at hl 1 rfl) ?_
                refine lv_iload C.1 C.2.1 dL_pool_107 (lv_at hl 2 rfl) ?_
                refine lv_isub C.1 C.2.1 dL_pool_109 ?_
                refine lv_goto (tgt := 118) C.1 C.2.1 dL_pool_110 (by decide) ?_
                exact W.widen (k := 250 * t + 5 + 2 * 99) (n := 1500 * t + 30 + 12 * 99) (by omega) (by omega) (cont118 (smF (U.2 0) false 1 (nI (99 - t)) (nF (U.2 0)) - smF (U.2 0) true (nI (99 - t)) 99 (nF (U.2 0))) (((q_vs (nI (99 - t))).2 c_102).2.symm) _ _ hw _ (lv_sub hl [0, 1, 2, 3, 4, 5, 6, 7] rfl))
            · intro v4 hv4 H locs hw ls hl
              replace hw : WH G s (cW G K r D X) H locs := hw
              replace hl : lv_has ls 10 [(7, .int (voF (U.2 0) (nF (U.2 0)) (nI (99 - t)))), (6, .int (smF (U.2 0) false 1 (nI (99 - t)) (nF (U.2 0)))), (5, .int (smF (U.2 0) true (nI (99 - t)) 99 (nF (U.2 0)))), (4, .int (nI (99 - t))), (3, .int ((dsR (U.2 0) t).2.2)), (2, .int ((dsR (U.2 0) t).2.1)), (1, .int ((dsR (U.2 0) t).1)), (0, .ref (K 7 0))] := hl
              show W p l e _ s m _ below meth c0 H locs (250 * t + 5 + 2 * 99) (1500 * t + 30 + 12 * 99) _ (F0 m 118 ls [.int v4])
              subst hv4
              refine lv_istore (lv' := [(8, .int (spF (U.2 0) (nI (99 - t)))), (7, .int (voF (U.2 0) (nF (U.2 0)) (nI (99 - t)))), (6, .int (smF (U.2 0) false 1 (nI (99 - t)) (nF (U.2 0)))), (5, .int (smF (U.2 0) true (nI (99 - t)) 99 (nF (U.2 0)))), (4, .int (nI (99 - t))), (3, .int ((dsR (U.2 0) t).2.2)), (2, .int ((dsR (U.2 0) t).2.1)), (1, .int ((dsR (U.2 0) t).1)), (0, .ref (K 7 0))]) C.1 C.2.1 dL_pool_118 hl (by decide) rfl (fun ls hl => ?_)
              refine lv_iload C.1 C.2.1 dL_pool_120 (lv_at hl 1 rfl) ?_
              refine lv_iload_n C.1 C.2.1 dL_pool_122 rfl (lv_at hl 6 rfl) ?_
              refine w_join (σ := Int32) G (pc1 := 148) (fun v5 => (v5 = 1 ∧ ((dsR (U.2 0) t).2.1 < voF (U.2 0) (nF (U.2 0)) (nI (99 - t)) ∨ (voF (U.2 0) (nF (U.2 0)) (nI (99 - t)) = (dsR (U.2 0) t).2.1 ∧ ¬ voF (U.2 0) (nF (U.2 0)) (nI (99 - t)) ≤ 0 ∧ spF (U.2 0) (nI (99 - t)) ≤ (dsR (U.2 0) t).2.2))) ∨ (v5 = 0 ∧ ¬ ((dsR (U.2 0) t).2.1 < voF (U.2 0) (nF (U.2 0)) (nI (99 - t)) ∨ (voF (U.2 0) (nF (U.2 0)) (nI (99 - t)) = (dsR (U.2 0) t).2.1 ∧ ¬ voF (U.2 0) (nF (U.2 0)) (nI (99 - t)) ≤ 0 ∧ spF (U.2 0) (nI (99 - t)) ≤ (dsR (U.2 0) t).2.2)))) (fun _ => cW G K r D X) (fun _ => 250 * t + 5 + 2 * 99) (fun _ => 1500 * t + 30 + 12 * 99) (fun _ => [(8, .int (spF (U.2 0) (nI (99 - t)))), (7, .int (voF (U.2 0) (nF (U.2 0)) (nI (99 - t)))), (6, .int (smF (U.2 0) false 1 (nI (99 - t)) (nF (U.2 0)))), (5, .int (smF (U.2 0) true (nI (99 - t)) 99 (nF (U.2 0)))), (4, .int (nI (99 - t))), (3, .int ((dsR (U.2 0) t).2.2)), (2, .int ((dsR (U.2 0) t).2.1)), (1, .int ((dsR (U.2 0) t).1)), (0, .ref (K 7 0))]) (fun v5 => [.int v5]) 10 (fun cont148 => ?_) ?_
              · refine lv_icmp_gt (tgt := 143) C.1 C.2.1 dL_pool_123 (by decide) (fun c_123 => ?_) (fun c_123 => ?_)
                · refine lv_iconst (v := 1) C.1 C.2.1 dL_pool_143 (by decide) ?_
                  refine lv_goto (tgt := 148) C.1 C.2.1 dL_pool_144 (by decide) ?_
                  exact W.widen (k := 250 * t + 5 + 2 * 99) (n := 1500 * t + 30 + 12 * 99) (by omega) (by omega) (cont148 1 (Or.inl ⟨rfl, Or.inl c_123⟩) _ _ hw _ (lv_sub hl [0, 1, 2, 3, 4, 5, 6, 7, 8] rfl))
                · refine lv_iload C.1 C.2.1 dL_pool_126 (lv_at hl 1 rfl) ?_
                  refine lv_iload_n C.1 C.2.1 dL_pool_128 rfl (lv_at hl 6 rfl) ?_
                  refine lv_icmp_ne (tgt := 147) C.1 C.2.1 dL_pool_129 (by decide) (fun c_129 => ?_) (fun c_129 => ?_)
                  · refine lv_iconst (v := 0) C.1 C.2.1 dL_pool_147 (by decide) ?_
                    exact W.widen (k := 250 * t + 5 + 2 * 99) (n := 1500 * t + 30 + 12 * 99) (by omega) (by omega) (cont148 0 (Or.inr ⟨rfl, fun q9 => q9.elim c_123 (fun q9 => c_129 q9.1)⟩) _ _ hw _ (lv_sub hl [0, 1, 2, 3, 4, 5, 6, 7, 8] rfl))
                  · refine lv_iload C.1 C.2.1 dL_pool_132 (lv_at hl 1 rfl) ?_
                    refine lv_if_le (tgt := 147) C.1 C.2.1 dL_pool_134 (by decide) (fun c_134 => ?_) (fun c_134 => ?_)
                    · refine lv_iconst (v := 0) C.1 C.2.1 dL_pool_147 (by decide) ?_
                      exact W.widen (k := 250 * t + 5 + 2 * 99) (n := 1500 * t + 30 + 12 * 99) (by omega) (by omega) (cont148 0 (Or.inr ⟨rfl, fun q9 => q9.elim c_123 (fun q9 => q9.2.1 c_134)⟩) _ _ hw _ (lv_sub hl [0, 1, 2, 3, 4, 5, 6, 7, 8] rfl))
                    · refine lv_iload C.1 C.2.1 dL_pool_137 (lv_at hl 0 rfl) ?_
                      refine lv_iload_n C.1 C.2.1 dL_pool_139 rfl (lv_at hl 5 rfl) ?_
                      refine lv_icmp_gt (tgt := 147) C.1 C.2.1 dL_pool_140 (by decide) (fun c_140 => ?_) (fun c_140 => ?_)
                      · refine lv_iconst (v := 0) C.1 C.2.1 dL_pool_147 (by decide) ?_
                        exact W.widen (k := 250 * t + 5 + 2 * 99) (n := 1500 * t + 30 + 12 * 99) (by omega) (by omega) (cont148 0 (Or.inr ⟨rfl, fun q9 => q9.elim c_123 (fun q9 => absurd q9.2.2 (Int32.not_le.mpr c_140))⟩) _ _ hw _ (lv_sub hl [0, 1, 2, 3, 4, 5, 6, 7, 8] rfl))
                      · refine lv_iconst (v := 1) C.1 C.2.1 dL_pool_143 (by decide) ?_
                        refine lv_goto (tgt := 148) C.1 C.2.1 dL_pool_144 (by decide) ?_
                        exact W.widen (k := 250 * t + 5 + 2 * 99) (n := 1500 * t + 30 + 12 * 99) (by omega) (by omega) (cont148 1 (Or.inl ⟨rfl, Or.inr ⟨c_129, c_134, Int32.not_lt.mp c_140⟩⟩) _ _ hw _ (lv_sub hl [0, 1, 2, 3, 4, 5, 6, 7, 8] rfl))
              · intro v5 hv5 H locs hw ls hl
                replace hw : WH G s (cW G K r D X) H locs := hw
                replace hl : lv_has ls 10 [(8, .int (spF (U.2 0) (nI (99 - t)))), (7, .int (voF (U.2 0) (nF (U.2 0)) (nI (99 - t)))), (6, .int (smF (U.2 0) false 1 (nI (99 - t)) (nF (U.2 0)))), (5, .int (smF (U.2 0) true (nI (99 - t)) 99 (nF (U.2 0)))), (4, .int (nI (99 - t))), (3, .int ((dsR (U.2 0) t).2.2)), (2, .int ((dsR (U.2 0) t).2.1)), (1, .int ((dsR (U.2 0) t).1)), (0, .ref (K 7 0))] := hl
                show W p l e _ s m _ below meth c0 H locs (250 * t + 5 + 2 * 99) (1500 * t + 30 + 12 * 99) _ (F0 m 148 ls [.int v5])
                rcases hv5 with ⟨rfl, hbt⟩ | ⟨rfl, hbt⟩
                · refine lv_istore (lv' := [(9, .int 1), (8, .int (spF (U.2 0) (nI (99 - t)))), (7, .int (voF (U.2 0) (nF (U.2 0)) (nI (99 - t)))), (6, .int (smF (U.2 0) false 1 (nI (99 - t)) (nF (U.2 0)))), (5, .int (smF (U.2 0) true (nI (99 - t)) 99 (nF (U.2 0)))), (4, .int (nI (99 - t))), (3, .int ((dsR (U.2 0) t).2.2)), (2, .int ((dsR (U.2 0) t).2.1)), (1, .int ((dsR (U.2 0) t).1)), (0, .ref (K 7 0))]) C.1 C.2.1 dL_pool_148 hl (by decide) rfl (fun ls hl => ?_)
                  refine lv_iload C.1 C.2.1 dL_pool_150 (lv_at hl 0 rfl) ?_
                  refine lv_if_eq (tgt := 160) C.1 C.2.1 dL_pool_152 (by decide) (fun c_152 => absurd c_152 (by decide)) (fun c_152 => ?_)
                  refine lv_iload C.1 C.2.1 dL_pool_155 (lv_at hl 5 rfl) ?_
                  refine lv_goto (tgt := 161) C.1 C.2.1 dL_pool_157 (by decide) ?_
                  refine lv_istore_n (lv' := [(1, .int (nI (99 - t))), (9, .int 1), (8, .int (spF (U.2 0) (nI (99 - t)))), (7, .int (voF (U.2 0) (nF (U.2 0)) (nI (99 - t)))), (6, .int (smF (U.2 0) false 1 (nI (99 - t)) (nF (U.2 0)))), (5, .int (smF (U.2 0) true (nI (99 - t)) 99 (nF (U.2 0)))), (4, .int (nI (99 - t))), (3, .int ((dsR (U.2 0) t).2.2)), (2, .int ((dsR (U.2 0) t).2.1)), (0, .ref (K 7 0))]) C.1 C.2.1 dL_pool_161 rfl hl (by decide) rfl (fun ls hl => ?_)
                  refine lv_iload C.1 C.2.1 dL_pool_162 (lv_at hl 1 rfl) ?_
                  refine lv_if_eq (tgt := 172) C.1 C.2.1 dL_pool_164 (by decide) (fun c_164 => absurd c_164 (by decide)) (fun c_164 => ?_)
                  refine lv_iload C.1 C.2.1 dL_pool_167 (lv_at hl 2 rfl) ?_
                  refine lv_goto (tgt := 173) C.1 C.2.1 dL_pool_169 (by decide) ?_
                  refine lv_istore_n (lv' := [(3, .int (spF (U.2 0) (nI (99 - t)))), (1, .int (nI (99 - t))), (9, .int 1), (8, .int (spF (U.2 0) (nI (99 - t)))), (7, .int (voF (U.2 0) (nF (U.2 0)) (nI (99 - t)))), (6, .int (smF (U.2 0) false 1 (nI (99 - t)) (nF (U.2 0)))), (5, .int (smF (U.2 0) true (nI (99 - t)) 99 (nF (U.2 0)))), (4, .int (nI (99 - t))), (2, .int ((dsR (U.2 0) t).2.1)), (0, .ref (K 7 0))]) C.1 C.2.1 dL_pool_173 rfl hl (by decide) rfl (fun ls hl => ?_)
                  refine lv_iload C.1 C.2.1 dL_pool_174 (lv_at hl 2 rfl) ?_
                  refine lv_if_eq (tgt := 184) C.1 C.2.1 dL_pool_176 (by decide) (fun c_176 => absurd c_176 (by decide)) (fun c_176 => ?_)
                  refine lv_iload C.1 C.2.1 dL_pool_179 (lv_at hl 4 rfl) ?_
                  refine lv_goto (tgt := 185) C.1 C.2.1 dL_pool_181 (by decide) ?_
                  refine lv_istore_n (lv' := [(2, .int (voF (U.2 0) (nF (U.2 0)) (nI (99 - t)))), (3, .int (spF (U.2 0) (nI (99 - t)))), (1, .int (nI (99 - t))), (9, .int 1), (8, .int (spF (U.2 0) (nI (99 - t)))), (7, .int (voF (U.2 0) (nF (U.2 0)) (nI (99 - t)))), (6, .int (smF (U.2 0) false 1 (nI (99 - t)) (nF (U.2 0)))), (5, .int (smF (U.2 0) true (nI (99 - t)) 99 (nF (U.2 0)))), (4, .int (nI (99 - t))), (0, .ref (K 7 0))]) C.1 C.2.1 dL_pool_185 rfl hl (by decide) rfl (fun ls hl => ?_)
                  refine lv_aload_n C.1 C.2.1 dL_pool_186 rfl (lv_at hl 9 rfl) ?_
                  refine lv_iload C.1 C.2.1 dL_pool_187 (lv_at hl 8 rfl) ?_
                  refine r_hsi C hw (a_volumeAt hF h (nI (99 - t)) (K := K) (r := r) (X := X)) ml_L_277 yf_L_volumeAt (As := [.ref (K 7 0), .int (nI (99 - t))]) rfl rfl ⟨(Nat.le_of_ble_eq_true rfl), (Nat.le_of_ble_eq_true rfl)⟩ ⟨by show _ ≤ 25300; omega, by show _ ≤ 152000; omega⟩ hl.1 (Nat.le_of_ble_eq_true rfl) dL_pool_189 (fun r_189 _ H locs hp_189 hw => ?_)
                  obtain rfl : r_189 = (voF (U.2 0) (nF (U.2 0)) (nI (99 - t))) := hp_189.trans (if_pos (q_pr (by omega)))
                  replace hw : WH G s (cW G K r D X) H locs := hw
                  refine lv_iload C.1 C.2.1 dL_pool_192 (lv_at hl 5 rfl) ?_
                  refine lv_icmp_eq (tgt := 199) C.1 C.2.1 dL_pool_194 (by decide) (fun c_194 => ?_) (fun c_194 => absurd (rfl) c_194)
                  refine lv_iinc (v := nI (99 - (t + 1))) (lv' := [(4, .int (nI (99 - (t + 1)))), (2, .int (voF (U.2 0) (nF (U.2 0)) (nI (99 - t)))), (3, .int (spF (U.2 0) (nI (99 - t)))), (1, .int (nI (99 - t))), (9, .int 1), (8, .int (spF (U.2 0) (nI (99 - t)))), (7, .int (voF (U.2 0) (nF (U.2 0)) (nI (99 - t)))), (6, .int (smF (U.2 0) false 1 (nI (99 - t)) (nF (U.2 0)))), (5, .int (smF (U.2 0) true (nI (99 - t)) 99 (nF (U.2 0)))), (0, .ref (K 7 0))]) C.1 C.2.1 dL_pool_199 hl (k := 8) rfl (show nI (99 - t) + Int32.ofInt (-1) = _ by rw [dec_nI (by omega)]; exact congrArg nI (by omega)) (by decide) rfl (fun ls hl => ?_)
                  refine lv_goto (tgt := 11) C.1 C.2.1 dL_pool_202 (by decide) ?_
                  have eA : dsR (U.2 0) (t + 1) = (nI (99 - t), voF (U.2 0) (nF (U.2 0)) (nI (99 - t)), spF (U.2 0) (nI (99 - t))) := if_pos hbt
                  replace hl : lv_has ls 10 [(4, .int (nI (99 - (t + 1)))), (3, .int ((dsR (U.2 0) (t + 1)).2.2)), (2, .int ((dsR (U.2 0) (t + 1)).2.1)), (1, .int ((dsR (U.2 0) (t + 1)).1)), (0, .ref (K 7 0))] := by rw [eA]; exact lv_sub hl [0, 2, 1, 3, 9] rfl
                  exact W.widen (k := 250 * (t + 1)) (n := 1500 * (t + 1)) (by omega) (by omega) (ih11 (t + 1) (by omega) _ _ hw _ (lv_sub hl [0, 1, 2, 3, 4] rfl))
                · refine lv_istore (lv' := [(9, .int 0), (8, .int (spF (U.2 0) (nI (99 - t)))), (7, .int (voF (U.2 0) (nF (U.2 0)) (nI (99 - t)))), (6, .int (smF (U.2 0) false 1 (nI (99 - t)) (nF (U.2 0)))), (5, .int (smF (U.2 0) true (nI (99 - t)) 99 (nF (U.2 0)))), (4, .int (nI (99 - t))), (3, .int ((dsR (U.2 0) t).2.2)), (2, .int ((dsR (U.2 0) t).2.1)), (1, .int ((dsR (U.2 0) t).1)), (0, .ref (K 7 0))]) C.1 C.2.1 dL_pool_148 hl (by decide) rfl (fun ls hl => ?_)
                  refine lv_iload C.1 C.2.1 dL_pool_150 (lv_at hl 0 rfl) ?_
                  refine lv_if_eq (tgt := 160) C.1 C.2.1 dL_pool_152 (by decide) (fun c_152 => ?_) (fun c_152 => absurd (rfl) c_152)
                  refine lv_iload_n C.1 C.2.1 dL_pool_160 rfl (lv_at hl 8 rfl) ?_
                  refine lv_istore_n (lv' := [(1, .int ((dsR (U.2 0) t).1)), (9, .int 0), (8, .int (spF (U.2 0) (nI (99 - t)))), (7, .int (voF (U.2 0) (nF (U.2 0)) (nI (99 - t)))), (6, .int (smF (U.2 0) false 1 (nI (99 - t)) (nF (U.2 0)))), (5, .int (smF (U.2 0) true (nI (99 - t)) 99 (nF (U.2 0)))), (4, .int (nI (99 - t))), (3, .int ((dsR (U.2 0) t).2.2)), (2, .int ((dsR (U.2 0) t).2.1)), (0, .ref (K 7 0))]) C.1 C.2.1 dL_pool_161 rfl hl (by decide) rfl (fun ls hl => ?_)
                  refine lv_iload C.1 C.2.1 dL_pool_162 (lv_at hl 1 rfl) ?_
                  refine lv_if_eq (tgt := 172) C.1 C.2.1 dL_pool_164 (by decide) (fun c_164 => ?_) (fun c_164 => absurd (rfl) c_164)
                  refine lv_iload_n C.1 C.2.1 dL_pool_172 rfl (lv_at hl 7 rfl) ?_
                  refine lv_istore_n (lv' := [(3, .int ((dsR (U.2 0) t).2.2)), (1, .int ((dsR (U.2 0) t).1)), (9, .int 0), (8, .int (spF (U.2 0) (nI (99 - t)))), (7, .int (voF (U.2 0) (nF (U.2 0)) (nI (99 - t)))), (6, .int (smF (U.2 0) false 1 (nI (99 - t)) (nF (U.2 0)))), (5, .int (smF (U.2 0) true (nI (99 - t)) 99 (nF (U.2 0)))), (4, .int (nI (99 - t))), (2, .int ((dsR (U.2 0) t).2.1)), (0, .ref (K 7 0))]) C.1 C.2.1 dL_pool_173 rfl hl (by decide) rfl (fun ls hl => ?_)
                  refine lv_iload C.1 C.2.1 dL_pool_174 (lv_at hl 2 rfl) ?_
                  refine lv_if_eq (tgt := 184) C.1 C.2.1 dL_pool_176 (by decide) (fun c_176 => ?_) (fun c_176 => absurd (rfl) c_176)
                  refine lv_iload_n C.1 C.2.1 dL_pool_184 rfl (lv_at hl 8 rfl) ?_
                  refine lv_istore_n (lv' := [(2, .int ((dsR (U.2 0) t).2.1)), (3, .int ((dsR (U.2 0) t).2.2)), (1, .int ((dsR (U.2 0) t).1)), (9, .int 0), (8, .int (spF (U.2 0) (nI (99 - t)))), (7, .int (voF (U.2 0) (nF (U.2 0)) (nI (99 - t)))), (6, .int (smF (U.2 0) false 1 (nI (99 - t)) (nF (U.2 0)))), (5, .int (smF (U.2 0) true (nI (99 - t)) 99 (nF (U.2 0)))), (4, .int (nI (99 - t))), (0, .ref (K 7 0))]) C.1 C.2.1 dL_pool_185 rfl hl (by decide) rfl (fun ls hl => ?_)
                  refine lv_aload_n C.1 C.2.1 dL_pool_186 rfl (lv_at hl 9 rfl) ?_
                  refine lv_iload C.1 C.2.1 dL_pool_187 (lv_at hl 8 rfl) ?_
                  refine r_hsi C hw (a_volumeAt hF h (nI (99 - t)) (K := K) (r := r) (X := X)) ml_L_277 yf_L_volumeAt (As := [.ref (K 7 0), .int (nI (99 - t))]) rfl rfl ⟨(Nat.le_of_ble_eq_true rfl), (Nat.le_of_ble_eq_true rfl)⟩ ⟨by show _ ≤ 25300; omega, by show _ ≤ 152000; omega⟩ hl.1 (Nat.le_of_ble_eq_true rfl) dL_pool_189 (fun r_189 _ H locs hp_189 hw => ?_)
                  obtain rfl : r_189 = (voF (U.2 0) (nF (U.2 0)) (nI (99 - t))) := hp_189.trans (if_pos (q_pr (by omega)))
                  replace hw : WH G s (cW G K r D X) H locs := hw
                  refine lv_iload C.1 C.2.1 dL_pool_192 (lv_at hl 5 rfl) ?_
                  refine lv_icmp_eq (tgt := 199) C.1 C.2.1 dL_pool_194 (by decide) (fun c_194 => ?_) (fun c_194 => absurd (rfl) c_194)
                  refine lv_iinc (v := nI (99 - (t + 1))) (lv' := [(4, .int (nI (99 - (t + 1)))), (2, .int ((dsR (U.2 0) t).2.1)), (3, .int ((dsR (U.2 0) t).2.2)), (1, .int ((dsR (U.2 0) t).1)), (9, .int 0), (8, .int (spF (U.2 0) (nI (99 - t)))), (7, .int (voF (U.2 0) (nF (U.2 0)) (nI (99 - t)))), (6, .int (smF (U.2 0) false 1 (nI (99 - t)) (nF (U.2 0)))), (5, .int (smF (U.2 0) true (nI (99 - t)) 99 (nF (U.2 0)))), (0, .ref (K 7 0))]) C.1 C.2.1 dL_pool_199 hl (k := 8) rfl (show nI (99 - t) + Int32.ofInt (-1) = _ by rw [dec_nI (by omega)]; exact congrArg nI (by omega)) (by decide) rfl (fun ls hl => ?_)
                  refine lv_goto (tgt := 11) C.1 C.2.1 dL_pool_202 (by decide) ?_
                  have eA : dsR (U.2 0) (t + 1) = dsR (U.2 0) t := if_neg hbt
                  replace hl : lv_has ls 10 [(4, .int (nI (99 - (t + 1)))), (3, .int ((dsR (U.2 0) (t + 1)).2.2)), (2, .int ((dsR (U.2 0) (t + 1)).2.1)), (1, .int ((dsR (U.2 0) (t + 1)).1)), (0, .ref (K 7 0))] := by rw [eA]; exact lv_sub hl [0, 2, 1, 3, 9] rfl
                  exact W.widen (k := 250 * (t + 1)) (n := 1500 * (t + 1)) (by omega) (by omega) (ih11 (t + 1) (by omega) _ _ hw _ (lv_sub hl [0, 1, 2, 3, 4] rfl))
        · have hk : k < 99 := by rw [i_le, i_nI (by omega), show (100 : Int32).toInt = 100 by decide] at c_29; omega
          refine lv_iload C.1 C.2.1 dL_pool_32 (lv_at hl 2 rfl) ?_
          refine lv_iload C.1 C.2.1 dL_pool_34 (lv_at hl 0 rfl) ?_
          refine lv_iload C.1 C.2.1 dL_pool_36 (lv_at hl 3 rfl) ?_
          refine w_join (σ := Int32) G (pc1 := 51) (fun v1 => v1 = (if 99 - t ≤ k + 1 then smF (U.2 0) true (nI (k + 1)) (nI (k + 1)) (nF (U.2 0)) else 0)) (fun _ => cW G K r D X) (fun _ => 250 * t + 5 + 2 * k + 1) (fun _ => 1500 * t + 30 + 12 * k + 6) (fun _ => [(7, .int (nI (k + 1))), (6, .int (smF (U.2 0) false 1 (nI (min k (99 - t))) (nF (U.2 0)))), (5, .int (smF (U.2 0) true (nI (99 - t)) (nI k) (nF (U.2 0)))), (4, .int (nI (99 - t))), (3, .int ((dsR (U.2 0) t).2.2)), (2, .int ((dsR (U.2 0) t).2.1)), (1, .int ((dsR (U.2 0) t).1)), (0, .ref (K 7 0))]) (fun v1 => [.int v1, .int (smF (U.2 0) true (nI (99 - t)) (nI k) (nF (U.2 0)))]) 10 (fun cont51 => ?_) ?_
          · refine lv_icmp_lt (tgt := 50) C.1 C.2.1 dL_pool_38 (by decide) (fun c_38 => ?_) (fun c_38 => ?_)
            · refine lv_iconst (v := 0) C.1 C.2.1 dL_pool_50 (by decide) ?_
              exact W.widen (k := 250 * t + 5 + 2 * k + 1) (n := 1500 * t + 30 + 12 * k + 6) (by omega) (by omega) (cont51 0 ((if_neg (by rw [nI_ltI (by omega) (by omega)] at c_38; omega)).symm) _ _ hw _ (lv_sub hl [0, 1, 2, 3, 4, 5, 6, 7] rfl))
            · refine lv_aload_n C.1 C.2.1 dL_pool_41 rfl (lv_at hl 7 rfl) ?_
              refine lv_iload C.1 C.2.1 dL_pool_42 (lv_at hl 0 rfl) ?_
              refine e_buyingAt C hw h (show 1 ≤ k + 1 ∧ k + 1 < 100 by omega) ml_L_104 ⟨(Nat.le_of_ble_eq_true rfl), (Nat.le_of_ble_eq_true rfl)⟩ ⟨by show _ ≤ 25300; omega, by show _ ≤ 152000; omega⟩ hl.1 (Nat.le_of_ble_eq_true rfl) dL_pool_44 (fun H locs hw => ?_)
              refine lv_goto (tgt := 51) C.1 C.2.1 dL_pool_47 (by decide) ?_
              exact W.widen (k := 250 * t + 5 + 2 * k + 1) (n := 1500 * t + 30 + 12 * k + 6) (by omega) (by omega) (cont51 (smF (U.2 0) true (nI (k + 1)) (nI (k + 1)) (nF (U.2 0))) ((if_pos (by rw [nI_ltI (by omega) (by omega)] at c_38; omega)).symm) _ _ hw _ (lv_sub hl [0, 1, 2, 3, 4, 5, 6, 7] rfl))
          · intro v1 hv1 H locs hw ls hl
            replace hw : WH G s (cW G K r D X) H locs := hw
            replace hl : lv_has ls 10 [(7, .int (nI (k + 1))), (6, .int (smF (U.2 0) false 1 (nI (min k (99 - t))) (nF (U.2 0)))), (5, .int (smF (U.2 0) true (nI (99 - t)) (nI k) (nF (U.2 0)))), (4, .int (nI (99 - t))), (3, .int ((dsR (U.2 0) t).2.2)), (2, .int ((dsR (U.2 0) t).2.1)), (1, .int ((dsR (U.2 0) t).1)), (0, .ref (K 7 0))] := hl
            show W p l e _ s m _ below meth c0 H locs (250 * t + 5 + 2 * k + 1) (1500 * t + 30 + 12 * k + 6) _ (F0 m 51 ls [.int v1, .int (smF (U.2 0) true (nI (99 - t)) (nI k) (nF (U.2 0)))])
            subst hv1
            refine lv_iadd C.1 C.2.1 dL_pool_51 ?_
            refine r_toe (show _ = smF (U.2 0) true (nI (99 - t)) (nI (k + 1)) (nF (U.2 0)) from q_bu (by omega) hk) ?_
            refine lv_istore (lv' := [(5, .int (smF (U.2 0) true (nI (99 - t)) (nI (k + 1)) (nF (U.2 0)))), (7, .int (nI (k + 1))), (6, .int (smF (U.2 0) false 1 (nI (min k (99 - t))) (nF (U.2 0)))), (4, .int (nI (99 - t))), (3, .int ((dsR (U.2 0) t).2.2)), (2, .int ((dsR (U.2 0) t).2.1)), (1, .int ((dsR (U.2 0) t).1)), (0, .ref (K 7 0))]) C.1 C.2.1 dL_pool_52 hl (by decide) rfl (fun ls hl => ?_)
            refine lv_iload C.1 C.2.1 dL_pool_54 (lv_at hl 2 rfl) ?_
            refine lv_iload C.1 C.2.1 dL_pool_56 (lv_at hl 1 rfl) ?_
            refine lv_iload C.1 C.2.1 dL_pool_58 (lv_at hl 3 rfl) ?_
            refine w_join (σ := Int32) G (pc1 := 73) (fun v2 => v2 = (if k + 1 ≤ 99 - t then smF (U.2 0) false (nI (k + 1)) (nI (k + 1)) (nF (U.2 0)) else 0)) (fun _ => cW G K r D X) (fun _ => 250 * t + 5 + 2 * k + 1 + 1) (fun _ => 1500 * t + 30 + 12 * k + 6 + 6) (fun _ => [(5, .int (smF (U.2 0) true (nI (99 - t)) (nI (k + 1)) (nF (U.2 0)))), (7, .int (nI (k + 1))), (6, .int (smF (U.2 0) false 1 (nI (min k (99 - t))) (nF (U.2 0)))), (4, .int (nI (99 - t))), (3, .int ((dsR (U.2 0) t).2.2)), (2, .int ((dsR (U.2 0) t).2.1)), (1, .int ((dsR (U.2 0) t).1)), (0, .ref (K 7 0))]) (fun v2 => [.int v2, .int (smF (U.2 0) false 1 (nI (min k (99 - t))) (nF (U.2 0)))]) 10 (fun cont73 => ?_) ?_
            · refine lv_icmp_gt (tgt := 72) C.1 C.2.1 dL_pool_60 (by decide) (fun c_60 => ?_) (fun c_60 => ?_)
              · refine lv_iconst (v := 0) C.1 C.2.1 dL_pool_72 (by decide) ?_
                exact W.widen (k := 250 * t + 5 + 2 * k + 1 + 1) (n := 1500 * t + 30 + 12 * k + 6 + 6) (by omega) (by omega) (cont73 0 ((if_neg (by have q9 := (nI_ltI (by omega) (by omega)).mp c_60; omega)).symm) _ _ hw _ (lv_sub hl [0, 1, 2, 3, 4, 5, 6, 7] rfl))
              · refine lv_aload_n C.1 C.2.1 dL_pool_63 rfl (lv_at hl 7 rfl) ?_
                refine lv_iload C.1 C.2.1 dL_pool_64 (lv_at hl 1 rfl) ?_
                refine e_sellingAt C hw h (show 1 ≤ k + 1 ∧ k + 1 < 100 by omega) ml_L_107 ⟨(Nat.le_of_ble_eq_true rfl), (Nat.le_of_ble_eq_true rfl)⟩ ⟨by show _ ≤ 25300; omega, by show _ ≤ 152000; omega⟩ hl.1 (Nat.le_of_ble_eq_true rfl) dL_pool_66 (fun H locs hw => ?_)
                refine lv_goto (tgt := 73) C.1 C.2.1 dL_pool_69 (by decide) ?_
                exact W.widen (k := 250 * t + 5 + 2 * k + 1 + 1) (n := 1500 * t + 30 + 12 * k + 6 + 6) (by omega) (by omega) (cont73 (smF (U.2 0) false (nI (k + 1)) (nI (k + 1)) (nF (U.2 0))) ((if_pos (by have q9 := mt (nI_ltI (a := 99 - t) (b := k + 1) (by omega) (by omega)).mpr c_60; omega)).symm) _ _ hw _ (lv_sub hl [0, 1, 2, 3, 4, 5, 6, 7] rfl))
            · intro v2 hv2 H locs hw ls hl
              replace hw : WH G s (cW G K r D X) H locs := hw
              replace hl : lv_has ls 10 [(5, .int (smF (U.2 0) true (nI (99 - t)) (nI (k + 1)) (nF (U.2 0)))), (7, .int (nI (k + 1))), (6, .int (smF (U.2 0) false 1 (nI (min k (99 - t))) (nF (U.2 0)))), (4, .int (nI (99 - t))), (3, .int ((dsR (U.2 0) t).2.2)), (2, .int ((dsR (U.2 0) t).2.1)), (1, .int ((dsR (U.2 0) t).1)), (0, .ref (K 7 0))] := hl
              show W p l e _ s m _ below meth c0 H locs (250 * t + 5 + 2 * k + 1 + 1) (1500 * t + 30 + 12 * k + 6 + 6) _ (F0 m 73 ls [.int v2, .int (smF (U.2 0) false 1 (nI (min k (99 - t))) (nF (U.2 0)))])
              subst hv2
              refine lv_iadd C.1 C.2.1 dL_pool_73 ?_
              refine r_toe (show _ = smF (U.2 0) false 1 (nI (min (k + 1) (99 - t))) (nF (U.2 0)) from q_se (by omega) hk) ?_
              refine lv_istore (lv' := [(6, .int (smF (U.2 0) false 1 (nI (min (k + 1) (99 - t))) (nF (U.2 0)))), (5, .int (smF (U.2 0) true (nI (99 - t)) (nI (k + 1)) (nF (U.2 0)))), (7, .int (nI (k + 1))), (4, .int (nI (99 - t))), (3, .int ((dsR (U.2 0) t).2.2)), (2, .int ((dsR (U.2 0) t).2.1)), (1, .int ((dsR (U.2 0) t).1)), (0, .ref (K 7 0))]) C.1 C.2.1 dL_pool_74 hl (by decide) rfl (fun ls hl => ?_)
              refine lv_iinc (v := nI (k + 1 + 1)) (lv' := [(7, .int (nI (k + 1 + 1))), (6, .int (smF (U.2 0) false 1 (nI (min (k + 1) (99 - t))) (nF (U.2 0)))), (5, .int (smF (U.2 0) true (nI (99 - t)) (nI (k + 1)) (nF (U.2 0)))), (4, .int (nI (99 - t))), (3, .int ((dsR (U.2 0) t).2.2)), (2, .int ((dsR (U.2 0) t).2.1)), (1, .int ((dsR (U.2 0) t).1)), (0, .ref (K 7 0))]) C.1 C.2.1 dL_pool_76 hl (k := 2) rfl (nI_add (k + 1) 1) (by decide) rfl (fun ls hl => ?_)
              refine lv_goto (tgt := 25) C.1 C.2.1 dL_pool_79 (by decide) ?_
              exact W.widen (k := 250 * t + 5 + 2 * (k + 1)) (n := 1500 * t + 30 + 12 * (k + 1)) (by omega) (by omega) (ih25 (k + 1) (by omega) _ _ hw _ (lv_sub hl [0, 1, 2, 3, 4, 5, 6, 7] rfl))
      · rintro k hk9; omega
  · rintro t ht9; omega

