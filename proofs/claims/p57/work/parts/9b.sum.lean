/-! The law: sum -/
theorem kl_338 : Cond.constantLong RL 338 7 ∈ LW := lwm (tb6 _ (List.mem_of_getElem? (i := 227) rfl)) rfl
theorem kl_343 : Cond.constantLong RL 343 31 ∈ LW := lwm (tb6 _ (List.mem_of_getElem? (i := 232) rfl)) rfl
theorem kl_345 : Cond.constantLong RL 345 37 ∈ LW := lwm (tb6 _ (List.mem_of_getElem? (i := 233) rfl)) rfl
theorem kl_347 : Cond.constantLong RL 347 41 ∈ LW := lwm (tb6 _ (List.mem_of_getElem? (i := 234) rfl)) rfl
theorem kl_349 : Cond.constantLong RL 349 43 ∈ LW := lwm (tb6 _ (List.mem_of_getElem? (i := 235) rfl)) rfl
theorem kl_351 : Cond.constantLong RL 351 47 ∈ LW := lwm (tb6 _ (List.mem_of_getElem? (i := 236) rfl)) rfl
theorem kl_353 : Cond.constantLong RL 353 53 ∈ LW := lwm (tb6 _ (List.mem_of_getElem? (i := 237) rfl)) rfl
def lsT (S : SV) (i : Nat) (a : Int64) : Int64 := 41 * (37 * a + (S.2.1 0 i).toInt64) + (S.2.1 1 i).toInt64
def lsO (S : SV) (k : Nat) (a : Int64) : Int64 := 53 * (47 * (43 * a + (10 * S.2.1 2 k).toInt64 + (S.2.1 3 k).toInt64) + (200 * S.2.1 6 k).toInt64 + (2 * S.2.1 5 k).toInt64 + (bI (buyS S k)).toInt64) + (if S.2.1 7 k = 0 then -14 else S.2.1 7 k).toInt64
def lsB (S : SV) : Int64 := 31 * (31 * (31 * (7 + (S.1 3).toInt64) + (S.1 2).toInt64) + (100 * S.1 6).toInt64 + (if S.1 6 = 0 then -13 else S.1 5).toInt64) + S.2.2
/-- the law's sum of a state -/
def lsS (S : SV) : Int64 := fr (lsO S) (nO S) (fr (lsT S) (nT S) (lsB S))
theorem q_lp {c : Int} {D : CD} {U : MV_} (h : Sm c D U) : (if laB (U.2 0) = true then U.2 0 5 else -13) = if D.S.1 6 = 0 then -13 else D.S.1 5 := by
  by_cases e : D.S.1 6 = 0
  · rw [if_pos e, if_neg (by rw [(la_ok h).1 e]; decide)]
  · rw [if_neg e, if_pos ((la_ok h).2 e)]
    exact h.rl.1.2.2.2.2.2.1.symm
theorem q_b0 {x : Int32} (h : isB x) : (x = 0 → 0 = x) ∧ (¬ x = 0 → 1 = x) := by
  rcases h with e | e
  · exact ⟨fun a => a.symm, fun a => absurd e a⟩
  · exact ⟨fun a => a.symm, fun _ => e.symm⟩

set_option maxHeartbeats 4000000 in
set_option maxRecDepth 100000 in
theorem k_sum {l : Launch} {G : Gx} (hF : SF l G) {c9 : Int} {D : CD} {U : MV_} (h : Sm c9 D U) (hc : c9 + 60 ≤ 40000) {K r : Nat → Nat → Nat} {X : va_W} : ML l G yL_sum cL_sum 5 12 300 1700 [.ref (K 7 0)] (cW G K r D X) (fun v _ => v = lsS D.S) (fun _ : Unit => cW G K r D X) := by
  refine mt_of hF (by decide) (Nat.le_of_ble_eq_true rfl) ?_
  intro p e s m below meth c0 C hin ls hl H locs hw
  have hl : lv_has ls 5 [(0, .ref (K 7 0))] := hl
  have hok := h.okf
  have hbk := h.iz.1
  have h6 := hok.2.2.2.1
  have h20 := hok.2.1
  refine lv_ldc2 (v := 7) C.1 C.2.1 C.2.2.2.2.1 (C.2.2.2.2.2.1 _ kl_338) dL_sum_0 ?_
  refine lv_aload_n C.1 C.2.1 dL_sum_3 rfl (lv_at hl 0 rfl) ?_
  refine d_time C hw h ml_L_340 ⟨(Nat.le_of_ble_eq_true rfl), (Nat.le_of_ble_eq_true rfl)⟩ ⟨by show _ ≤ 300; omega, by show _ ≤ 1700; omega⟩ hl.1 (Nat.le_of_ble_eq_true rfl) dL_sum_4 (fun H locs hw => ?_)
  refine r_toe (show _ = D.S.1 3 from h.rl.1.2.2.2.1.symm) ?_
  refine lv_i2l (v := (D.S.1 3).toInt64) C.1 C.2.1 dL_sum_7 rfl ?_
  refine lv_ladd C.1 C.2.1 dL_sum_8 ?_
  refine lv_lstore_n (lv' := [(1, .long (7 + (D.S.1 3).toInt64)), (0, .ref (K 7 0))]) C.1 C.2.1 dL_sum_9 rfl hl (by decide) rfl (fun ls hl => ?_)
  refine lv_ldc2 (v := 31) C.1 C.2.1 C.2.2.2.2.1 (C.2.2.2.2.2.1 _ kl_343) dL_sum_10 ?_
  refine lv_lload_n C.1 C.2.1 dL_sum_13 rfl (lv_at hl 0 rfl) ?_
  refine lv_lmul C.1 C.2.1 dL_sum_14 ?_
  refine lv_aload_n C.1 C.2.1 dL_sum_15 rfl (lv_at hl 1 rfl) ?_
  refine d_isPoolOpen C hw h ml_L_191 ⟨(Nat.le_of_ble_eq_true rfl), (Nat.le_of_ble_eq_true rfl)⟩ ⟨by show _ ≤ 300; omega, by show _ ≤ 1700; omega⟩ hl.1 (Nat.le_of_ble_eq_true rfl) dL_sum_16 (fun H locs hw => ?_)
  refine r_toe (show _ = D.S.1 2 from h.rl.1.2.2.1.symm) ?_
  refine w_join (σ := Int32) G (pc1 := 27) (fun v1 => v1 = D.S.1 2) (fun _ => cW G K r D X) (fun _ => 0) (fun _ => 0) (fun _ => [(1, .long (7 + (D.S.1 3).toInt64)), (0, .ref (K 7 0))]) (fun v1 => [.int v1, .long (31 * (7 + (D.S.1 3).toInt64))]) 5 (fun cont27 => ?_) ?_
  · refine lv_if_eq (tgt := 26) C.1 C.2.1 dL_sum_19 (by decide) (fun c_19 => ?_) (fun c_19 => ?_)
    · refine lv_iconst (v := 0) C.1 C.2.1 dL_sum_26 (by decide) ?_
      exact W.widen (k := 0) (n := 0) (by omega) (by omega) (cont27 0 ((q_b0 h.b2).1 c_19) _ _ hw _ (lv_sub hl [0, 1] rfl))
    · refine lv_iconst (v := 1) C.1 C.2.1 dL_sum_22 (by decide) ?_
      refine lv_goto (tgt := 27) C.1 C.2.1 dL_sum_23 (by decide) ?_
      exact W.widen (k := 0) (n := 0) (by omega) (by omega) (cont27 1 ((q_b0 h.b2).2 c_19) _ _ hw _ (lv_sub hl [0, 1] rfl))
  · intro v1 hv1 H locs hw ls hl
    replace hw : WH G s (cW G K r D X) H locs := hw
    replace hl : lv_has ls 5 [(1, .long (7 + (D.S.1 3).toInt64)), (0, .ref (K 7 0))] := hl
    show W p l e _ s m _ below meth c0 H locs (0) (0) _ (F0 m 27 ls [.int v1, .long (31 * (7 + (D.S.1 3).toInt64))])
    subst hv1
    refine lv_i2l (v := (D.S.1 2).toInt64) C.1 C.2.1 dL_sum_27 rfl ?_
    refine lv_ladd C.1 C.2.1 dL_sum_28 ?_
    refine lv_lstore_n (lv' := [(1, .long ((31 * (7 + (D.S.1 3).toInt64)) + (D.S.1 2).toInt64)), (0, .ref (K 7 0))]) C.1 C.2.1 dL_sum_29 rfl hl (by decide) rfl (fun ls hl => ?_)
    refine lv_ldc2 (v := 31) C.1 C.2.1 C.2.2.2.2.1 (C.2.2.2.2.2.1 _ kl_343) dL_sum_30 ?_
    refine lv_lload_n C.1 C.2.1 dL_sum_33 rfl (lv_at hl 0 rfl) ?_
    refine lv_lmul C.1 C.2.1 dL_sum_34 ?_
    refine lv_bipush (v := 100) C.1 C.2.1 dL_sum_35 (by decide) ?_
    refine lv_aload_n C.1 C.2.1 dL_sum_37 rfl (lv_at hl 1 rfl) ?_
    refine d_tradeCount C hw h ml_L_279 ⟨(Nat.le_of_ble_eq_true rfl), (Nat.le_of_ble_eq_true rfl)⟩ ⟨by show _ ≤ 300; omega, by show _ ≤ 1700; omega⟩ hl.1 (Nat.le_of_ble_eq_true rfl) dL_sum_38 (fun H locs hw => ?_)
    refine r_toe (show _ = D.S.1 6 from h.rl.1.2.2.2.2.2.2.1.symm) ?_
    refine lv_imul C.1 C.2.1 dL_sum_41 ?_
    refine lv_i2l (v := (100 * (D.S.1 6)).toInt64) C.1 C.2.1 dL_sum_42 rfl ?_
    refine lv_ladd C.1 C.2.1 dL_sum_43 ?_
    refine lv_aload_n C.1 C.2.1 dL_sum_44 rfl (lv_at hl 1 rfl) ?_
    refine r_hsi C hw (a_lastPrice hF h (K := K) (r := r) (X := X)) ml_L_293 yf_L_lastPrice (As := [.ref (K 7 0)]) rfl rfl ⟨(Nat.le_of_ble_eq_true rfl), (Nat.le_of_ble_eq_true rfl)⟩ ⟨by show _ ≤ 300; omega, by show _ ≤ 1700; omega⟩ hl.1 (Nat.le_of_ble_eq_true rfl) dL_sum_45 (fun r_45 _ H locs hp_45 hw => ?_)
    obtain rfl : r_45 = (if D.S.1 6 = 0 then -13 else D.S.1 5) := hp_45.trans (q_lp h)
    replace hw : WH G s (cW G K r D X) H locs := hw
    refine lv_i2l (v := (if D.S.1 6 = 0 then -13 else D.S.1 5).toInt64) C.1 C.2.1 dL_sum_48 rfl ?_
    refine lv_ladd C.1 C.2.1 dL_sum_49 ?_
    refine lv_lstore_n (lv' := [(1, .long (((31 * ((31 * (7 + (D.S.1 3).toInt64)) + (D.S.1 2).toInt64)) + (100 * (D.S.1 6)).toInt64) + (if D.S.1 6 = 0 then -13 else D.S.1 5).toInt64)), (0, .ref (K 7 0))]) C.1 C.2.1 dL_sum_50 rfl hl (by decide) rfl (fun ls hl => ?_)
    refine lv_ldc2 (v := 31) C.1 C.2.1 C.2.2.2.2.1 (C.2.2.2.2.2.1 _ kl_343) dL_sum_51 ?_
    refine lv_lload_n C.1 C.2.1 dL_sum_54 rfl (lv_at hl 0 rfl) ?_
    refine lv_lmul C.1 C.2.1 dL_sum_55 ?_
    refine lv_aload_n C.1 C.2.1 dL_sum_56 rfl (lv_at hl 1 rfl) ?_
    refine d_turnover C hw h ml_L_286 ⟨(Nat.le_of_ble_eq_true rfl), (Nat.le_of_ble_eq_true rfl)⟩ ⟨by show _ ≤ 300; omega, by show _ ≤ 1700; omega⟩ hl.1 (Nat.le_of_ble_eq_true rfl) dL_sum_57 (fun H locs hw => ?_)
    rw [← h.rl.2.1]
    refine lv_ladd C.1 C.2.1 dL_sum_60 ?_
    refine lv_lstore_n (lv' := [(1, .long ((31 * (((31 * ((31 * (7 + (D.S.1 3).toInt64)) + (D.S.1 2).toInt64)) + (100 * (D.S.1 6)).toInt64) + (if D.S.1 6 = 0 then -13 else D.S.1 5).toInt64)) + D.S.2.2)), (0, .ref (K 7 0))]) C.1 C.2.1 dL_sum_61 rfl hl (by decide) rfl (fun ls hl => ?_)
    refine lv_iconst (v := 0) C.1 C.2.1 dL_sum_62 (by decide) ?_
    refine lv_istore_n (lv' := [(3, .int 0), (1, .long ((31 * (((31 * ((31 * (7 + (D.S.1 3).toInt64)) + (D.S.1 2).toInt64)) + (100 * (D.S.1 6)).toInt64) + (if D.S.1 6 = 0 then -13 else D.S.1 5).toInt64)) + D.S.2.2)), (0, .ref (K 7 0))]) C.1 C.2.1 dL_sum_63 rfl hl (by decide) rfl (fun ls hl => ?_)
    refine W.widen (k := 10 + 2 * 0) (n := 60 + 12 * 0) (by omega) (by omega) ?_
    refine w_loop (σ := Nat) G (fun u i => i ≤ tF (U.2 0) ∧ i + u = tF (U.2 0) + 1) (fun i => cW G K r D X) (fun i => 10 + 2 * i) (fun i => 60 + 12 * i) (fun i => [(3, .int (nI i)), (1, .long (fr (lsT D.S) i (lsB D.S))), (0, .ref (K 7 0))]) 5 ?_ ?_ (tF (U.2 0) + 1) 0 (by omega) hw (lv_sub hl [0, 1, 2] rfl)
    · rintro n64 i hi9 ih64 H locs hw ls hl
      replace hw : WH G s (cW G K r D X) H locs := hw
      replace hl : lv_has ls 5 [(3, .int (nI i)), (1, .long (fr (lsT D.S) i (lsB D.S))), (0, .ref (K 7 0))] := hl
      show W p l e _ s m _ below meth c0 H locs (10 + 2 * i) (60 + 12 * i) _ (F0 m 64 ls [])
      refine lv_iload_n C.1 C.2.1 dL_sum_64 rfl (lv_at hl 0 rfl) ?_
      refine lv_aload_n C.1 C.2.1 dL_sum_65 rfl (lv_at hl 2 rfl) ?_
      refine d_stallCount C hw h ml_L_222 ⟨(Nat.le_of_ble_eq_true rfl), (Nat.le_of_ble_eq_true rfl)⟩ ⟨by show _ ≤ 300; omega, by show _ ≤ 1700; omega⟩ hl.1 (Nat.le_of_ble_eq_true rfl) dL_sum_66 (fun H locs hw => ?_)
      refine lv_icmp_ge (tgt := 104) C.1 C.2.1 dL_sum_69 (by decide) (fun c_69 => ?_) (fun c_69 => ?_)
      · obtain rfl : i = tF (U.2 0) := by rw [nI_leI (by omega) (by omega)] at c_69; omega
        refine lv_iconst (v := 0) C.1 C.2.1 dL_sum_104 (by decide) ?_
        refine lv_istore_n (lv' := [(3, .int 0), (1, .long (fr (lsT D.S) (tF (U.2 0)) (lsB D.S))), (0, .ref (K 7 0))]) C.1 C.2.1 dL_sum_105 rfl hl (by decide) rfl (fun ls hl => ?_)
        refine W.widen (k := 30 + 10 * 0) (n := 200 + 60 * 0) (by omega) (by omega) ?_
        refine w_loop (σ := Nat) G (fun u k => k ≤ nF (U.2 0) ∧ k + u = nF (U.2 0) + 1) (fun k => cW G K r D X) (fun k => 30 + 10 * k) (fun k => 200 + 60 * k) (fun k => [(3, .int (nI k)), (1, .long (fr (lsO D.S) k (fr (lsT D.S) (tF (U.2 0)) (lsB D.S)))), (0, .ref (K 7 0))]) 5 ?_ ?_ (nF (U.2 0) + 1) 0 (by omega) hw (lv_sub hl [0, 1, 2] rfl)
        · rintro n106 k hk9 ih106 H locs hw ls hl
          replace hw : WH G s (cW G K r D X) H locs := hw
          replace hl : lv_has ls 5 [(3, .int (nI k)), (1, .long (fr (lsO D.S) k (fr (lsT D.S) (tF (U.2 0)) (lsB D.S)))), (0, .ref (K 7 0))] := hl
          show W p l e _ s m _ below meth c0 H locs (30 + 10 * k) (200 + 60 * k) _ (F0 m 106 ls [])
          refine lv_iload_n C.1 C.2.1 dL_sum_106 rfl (lv_at hl 0 rfl) ?_
          refine lv_aload_n C.1 C.2.1 dL_sum_107 rfl (lv_at hl 2 rfl) ?_
          refine d_orderCount C hw h ml_L_231 ⟨(Nat.le_of_ble_eq_true rfl), (Nat.le_of_ble_eq_true rfl)⟩ ⟨by show _ ≤ 300; omega, by show _ ≤ 1700; omega⟩ hl.1 (Nat.le_of_ble_eq_true rfl) dL_sum_108 (fun H locs hw => ?_)
          refine lv_icmp_ge (tgt := 206) C.1 C.2.1 dL_sum_111 (by decide) (fun c_111 => ?_) (fun c_111 => ?_)
          · obtain rfl : k = nF (U.2 0) := by rw [nI_leI (by omega) (by omega)] at c_111; omega
            refine lv_lload_n C.1 C.2.1 dL_sum_206 rfl (lv_at hl 1 rfl) ?_
            exact r_lret C hw rfl () (by show _ = fr _ (nO D.S) (fr _ (nT D.S) _); rw [h.rl.n, h.rl.t]) rfl (by show _ ≤ 300; omega) (by show _ ≤ 1700; omega) dL_sum_207
          · have hk : k < nF (U.2 0) := by rw [nI_leI (by omega) (by omega)] at c_111; omega
            refine lv_aload_n C.1 C.2.1 dL_sum_114 rfl (lv_at hl 2 rfl) ?_
            refine lv_iload_n C.1 C.2.1 dL_sum_115 rfl (lv_at hl 0 rfl) ?_
            refine e_orderAt C hw h (hk) ml_L_73 ⟨(Nat.le_of_ble_eq_true rfl), (Nat.le_of_ble_eq_true rfl)⟩ ⟨by show _ ≤ 300; omega, by show _ ≤ 1700; omega⟩ hl.1 (Nat.le_of_ble_eq_true rfl) dL_sum_116 (fun H locs hw => ?_)
            refine lv_istore (lv' := [(4, .int (oF (U.2 0) k 0)), (3, .int (nI k)), (1, .long (fr (lsO D.S) k (fr (lsT D.S) (tF (U.2 0)) (lsB D.S)))), (0, .ref (K 7 0))]) C.1 C.2.1 dL_sum_119 hl (by decide) rfl (fun ls hl => ?_)
            refine lv_ldc2 (v := 43) C.1 C.2.1 C.2.2.2.2.1 (C.2.2.2.2.2.1 _ kl_349) dL_sum_121 ?_
            refine lv_lload_n C.1 C.2.1 dL_sum_124 rfl (lv_at hl 2 rfl) ?_
            refine lv_lmul C.1 C.2.1 dL_sum_125 ?_
            refine lv_bipush (v := 10) C.1 C.2.1 dL_sum_126 (by decide) ?_
            refine lv_iload C.1 C.2.1 dL_sum_128 (lv_at hl 0 rfl) ?_
            refine lv_imul C.1 C.2.1 dL_sum_130 ?_
            refine r_toe (show _ = 10 * D.S.2.1 2 k from by rw [h.rl.num hk]) ?_
            refine lv_i2l (v := (10 * D.S.2.1 2 k).toInt64) C.1 C.2.1 dL_sum_131 rfl ?_
            refine lv_ladd C.1 C.2.1 dL_sum_132 ?_
            refine lv_aload_n C.1 C.2.1 dL_sum_133 rfl (lv_at hl 3 rfl) ?_
            refine lv_iload C.1 C.2.1 dL_sum_134 (lv_at hl 0 rfl) ?_
            refine e_stallOf C hw h (hk) ml_L_76 ⟨(Nat.le_of_ble_eq_true rfl), (Nat.le_of_ble_eq_true rfl)⟩ ⟨by show _ ≤ 300; omega, by show _ ≤ 1700; omega⟩ hl.1 (Nat.le_of_ble_eq_true rfl) dL_sum_136 (fun H locs hw => ?_)
            refine r_toe (show _ = D.S.2.1 3 k from (h.rl.sta hk).symm) ?_
            refine lv_i2l (v := (D.S.2.1 3 k).toInt64) C.1 C.2.1 dL_sum_139 rfl ?_
            refine lv_ladd C.1 C.2.1 dL_sum_140 ?_
            refine lv_lstore_n (lv' := [(1, .long (((43 * (fr (lsO D.S) k (fr (lsT D.S) (tF (U.2 0)) (lsB D.S)))) + (10 * D.S.2.1 2 k).toInt64) + (D.S.2.1 3 k).toInt64)), (4, .int (oF (U.2 0) k 0)), (3, .int (nI k)), (0, .ref (K 7 0))]) C.1 C.2.1 dL_sum_141 rfl hl (by decide) rfl (fun ls hl => ?_)
            refine lv_ldc2 (v := 47) C.1 C.2.1 C.2.2.2.2.1 (C.2.2.2.2.2.1 _ kl_351) dL_sum_142 ?_
            refine lv_lload_n C.1 C.2.1 dL_sum_145 rfl (lv_at hl 0 rfl) ?_
            refine lv_lmul C.1 C.2.1 dL_sum_146 ?_
            refine lv_sipush (v := 200) C.1 C.2.1 dL_sum_147 (by decide) ?_
            refine lv_aload_n C.1 C.2.1 dL_sum_150 rfl (lv_at hl 3 rfl) ?_
            refine lv_iload C.1 C.2.1 dL_sum_151 (lv_at hl 1 rfl) ?_
            refine e_quantityOf C hw h (hk) ml_L_86 ⟨(Nat.le_of_ble_eq_true rfl), (Nat.le_of_ble_eq_true rfl)⟩ ⟨by show _ ≤ 300; omega, by show _ ≤ 1700; omega⟩ hl.1 (Nat.le_of_ble_eq_true rfl) dL_sum_153 (fun H locs hw => ?_)
            refine r_toe (show _ = D.S.2.1 6 k from (h.rl.qua hk).symm) ?_
            refine lv_imul C.1 C.2.1 dL_sum_156 ?_
            refine lv_i2l (v := (200 * (D.S.2.1 6 k)).toInt64) C.1 C.2.1 dL_sum_157 rfl ?_
            refine lv_ladd C.1 C.2.1 dL_sum_158 ?_
            refine lv_iconst (v := 2) C.1 C.2.1 dL_sum_159 (by decide) ?_
            refine lv_aload_n C.1 C.2.1 dL_sum_160 rfl (lv_at hl 3 rfl) ?_
            refine lv_iload C.1 C.2.1 dL_sum_161 (lv_at hl 1 rfl) ?_
            refine e_priceOf C hw h (hk) ml_L_83 ⟨(Nat.le_of_ble_eq_true rfl), (Nat.le_of_ble_eq_true rfl)⟩ ⟨by show _ ≤ 300; omega, by show _ ≤ 1700; omega⟩ hl.1 (Nat.le_of_ble_eq_true rfl) dL_sum_163 (fun H locs hw => ?_)
            refine r_toe (show _ = D.S.2.1 5 k from (h.rl.pri hk).symm) ?_
            refine lv_imul C.1 C.2.1 dL_sum_166 ?_
            refine lv_i2l (v := (2 * (D.S.2.1 5 k)).toInt64) C.1 C.2.1 dL_sum_167 rfl ?_
            refine lv_ladd C.1 C.2.1 dL_sum_168 ?_
            refine lv_aload_n C.1 C.2.1 dL_sum_169 rfl (lv_at hl 3 rfl) ?_
            refine lv_iload C.1 C.2.1 dL_sum_170 (lv_at hl 1 rfl) ?_
            refine e_isBuying C hw h (hk) ml_L_79 ⟨(Nat.le_of_ble_eq_true rfl), (Nat.le_of_ble_eq_true rfl)⟩ ⟨by show _ ≤ 300; omega, by show _ ≤ 1700; omega⟩ hl.1 (Nat.le_of_ble_eq_true rfl) dL_sum_172 (fun H locs hw => ?_)
            refine r_toe (show _ = bI (buyS D.S k) from by rw [h.rl.buy hk]) ?_
            refine w_join (σ := Int32) G (pc1 := 183) (fun v2 => v2 = bI (buyS D.S k)) (fun _ => cW G K r D X) (fun _ => 30 + 10 * k + 5) (fun _ => 200 + 60 * k + 30) (fun _ => [(1, .long (((43 * (fr (lsO D.S) k (fr (lsT D.S) (tF (U.2 0)) (lsB D.S)))) + (10 * D.S.2.1 2 k).toInt64) + (D.S.2.1 3 k).toInt64)), (4, .int (oF (U.2 0) k 0)), (3, .int (nI k)), (0, .ref (K 7 0))]) (fun v2 => [.int v2, .long (((47 * (((43 * (fr (lsO D.S) k (fr (lsT D.S) (tF (U.2 0)) (lsB D.S)))) + (10 * D.S.2.1 2 k).toInt64) + (D.S.2.1 3 k).toInt64)) + (200 * (D.S.2.1 6 k)).toInt64) + (2 * (D.S.2.1 5 k)).toInt64)]) 5 (fun cont183 => ?_) ?_
            · refine lv_if_eq (tgt := 182) C.1 C.2.1 dL_sum_175 (by decide) (fun c_175 => ?_) (fun c_175 => ?_)
              · refine lv_iconst (v := 0) C.1 C.2.1 dL_sum_182 (by decide) ?_
                exact W.widen (k := 30 + 10 * k + 5) (n := 200 + 60 * k + 30) (by omega) (by omega) (cont183 0 (c_175.symm) _ _ hw _ (lv_sub hl [0, 1, 2, 3] rfl))
              · refine lv_iconst (v := 1) C.1 C.2.1 dL_sum_178 (by decide) ?_
                refine lv_goto (tgt := 183) C.1 C.2.1 dL_sum_179 (by decide) ?_
                exact W.widen (k := 30 + 10 * k + 5) (n := 200 + 60 * k + 30) (by omega) (by omega) (cont183 1 (by rw [bI_ne0.mp c_175]; rfl) _ _ hw _ (lv_sub hl [0, 1, 2, 3] rfl))
            · intro v2 hv2 H locs hw ls hl
              replace hw : WH G s (cW G K r D X) H locs := hw
              replace hl : lv_has ls 5 [(1, .long (((43 * (fr (lsO D.S) k (fr (lsT D.S) (tF (U.2 0)) (lsB D.S)))) + (10 * D.S.2.1 2 k).toInt64) + (D.S.2.1 3 k).toInt64)), (4, .int (oF (U.2 0) k 0)), (3, .int (nI k)), (0, .ref (K 7 0))] := hl
              show W p l e _ s m _ below meth c0 H locs (30 + 10 * k + 5) (200 + 60 * k + 30) _ (F0 m 183 ls [.int v2, .long (((47 * (((43 * (fr (lsO D.S) k (fr (lsT D.S) (tF (U.2 0)) (lsB D.S)))) + (10 * D.S.2.1 2 k).toInt64) + (D.S.2.1 3 k).toInt64)) + (200 * (D.S.2.1 6 k)).toInt64) + (2 * (D.S.2.1 5 k)).toInt64)])
              subst hv2
              refine lv_i2l (v := (bI (buyS D.S k)).toInt64) C.1 C.2.1 dL_sum_183 rfl ?_
              refine lv_ladd C.1 C.2.1 dL_sum_184 ?_
              refine lv_lstore_n (lv' := [(1, .long ((((47 * (((43 * (fr (lsO D.S) k (fr (lsT D.S) (tF (U.2 0)) (lsB D.S)))) + (10 * D.S.2.1 2 k).toInt64) + (D.S.2.1 3 k).toInt64)) + (200 * (D.S.2.1 6 k)).toInt64) + (2 * (D.S.2.1 5 k)).toInt64) + (bI (buyS D.S k)).toInt64)), (4, .int (oF (U.2 0) k 0)), (3, .int (nI k)), (0, .ref (K 7 0))]) C.1 C.2.1 dL_sum_185 rfl hl (by decide) rfl (fun ls hl => ?_)
              refine lv_ldc2 (v := 53) C.1 C.2.1 C.2.2.2.2.1 (C.2.2.2.2.2.1 _ kl_353) dL_sum_186 ?_
              refine lv_lload_n C.1 C.2.1 dL_sum_189 rfl (lv_at hl 0 rfl) ?_
              refine lv_lmul C.1 C.2.1 dL_sum_190 ?_
              refine lv_aload_n C.1 C.2.1 dL_sum_191 rfl (lv_at hl 3 rfl) ?_
              refine lv_iload C.1 C.2.1 dL_sum_192 (lv_at hl 1 rfl) ?_
              refine r_hsi C hw (a_minutesLeft hF h hc (oF (U.2 0) k 0) (K := K) (r := r) (X := X)) ml_L_257 yf_L_minutesLeft (As := [.ref (K 7 0), .int (oF (U.2 0) k 0)]) rfl rfl ⟨(Nat.le_of_ble_eq_true rfl), (Nat.le_of_ble_eq_true rfl)⟩ ⟨by show _ ≤ 300; omega, by show _ ≤ 1700; omega⟩ hl.1 (Nat.le_of_ble_eq_true rfl) dL_sum_194 (fun r_194 _ H locs hp_194 hw => ?_)
              obtain rfl : r_194 = (if D.S.2.1 7 k = 0 then -14 else D.S.2.1 7 k) := hp_194.trans ((q_mi hbk hk).trans (by rw [h.rl.mnt hk]))
              replace hw : WH G s (cW G K r D X) H locs := hw
              refine lv_i2l (v := (if D.S.2.1 7 k = 0 then -14 else D.S.2.1 7 k).toInt64) C.1 C.2.1 dL_sum_197 rfl ?_
              refine lv_ladd C.1 C.2.1 dL_sum_198 ?_
              refine lv_lstore_n (lv' := [(1, .long ((53 * ((((47 * (((43 * (fr (lsO D.S) k (fr (lsT D.S) (tF (U.2 0)) (lsB D.S)))) + (10 * D.S.2.1 2 k).toInt64) + (D.S.2.1 3 k).toInt64)) + (200 * (D.S.2.1 6 k)).toInt64) + (2 * (D.S.2.1 5 k)).toInt64) + (bI (buyS D.S k)).toInt64)) + (if D.S.2.1 7 k = 0 then -14 else D.S.2.1 7 k).toInt64)), (4, .int (oF (U.2 0) k 0)), (3, .int (nI k)), (0, .ref (K 7 0))]) C.1 C.2.1 dL_sum_199 rfl hl (by decide) rfl (fun ls hl => ?_)
              refine lv_iinc (v := nI (k + 1)) (lv' := [(3, .int (nI (k + 1))), (1, .long ((53 * ((((47 * (((43 * (fr (lsO D.S) k (fr (lsT D.S) (tF (U.2 0)) (lsB D.S)))) + (10 * D.S.2.1 2 k).toInt64) + (D.S.2.1 3 k).toInt64)) + (200 * (D.S.2.1 6 k)).toInt64) + (2 * (D.S.2.1 5 k)).toInt64) + (bI (buyS D.S k)).toInt64)) + (if D.S.2.1 7 k = 0 then -14 else D.S.2.1 7 k).toInt64)), (4, .int (oF (U.2 0) k 0)), (0, .ref (K 7 0))]) C.1 C.2.1 dL_sum_200 hl (k := 2) rfl (nI_add k 1) (by decide) rfl (fun ls hl => ?_)
              refine lv_goto (tgt := 106) C.1 C.2.1 dL_sum_203 (by decide) ?_
              exact W.widen (k := 30 + 10 * (k + 1)) (n := 200 + 60 * (k + 1)) (by omega) (by omega) (ih106 (k + 1) (by omega) _ _ hw _ (lv_sub hl [0, 1, 3] rfl))
        · rintro k hk9; omega
      · have hi : i < tF (U.2 0) := by rw [nI_leI (by omega) (by omega)] at c_69; omega
        refine lv_ldc2 (v := 37) C.1 C.2.1 C.2.2.2.2.1 (C.2.2.2.2.2.1 _ kl_345) dL_sum_72 ?_
        refine lv_lload_n C.1 C.2.1 dL_sum_75 rfl (lv_at hl 1 rfl) ?_
        refine lv_lmul C.1 C.2.1 dL_sum_76 ?_
        refine lv_aload_n C.1 C.2.1 dL_sum_77 rfl (lv_at hl 2 rfl) ?_
        refine lv_iload_n C.1 C.2.1 dL_sum_78 rfl (lv_at hl 0 rfl) ?_
        refine e_moneyOf C hw h (hi) ml_L_58 ⟨(Nat.le_of_ble_eq_true rfl), (Nat.le_of_ble_eq_true rfl)⟩ ⟨by show _ ≤ 300; omega, by show _ ≤ 1700; omega⟩ hl.1 (Nat.le_of_ble_eq_true rfl) dL_sum_79 (fun H locs hw => ?_)
        refine r_toe (show _ = D.S.2.1 0 i from ((h.rl.2.2.1 i (by omega)).1.trans (if_pos hi)).symm) ?_
        refine lv_i2l (v := (D.S.2.1 0 i).toInt64) C.1 C.2.1 dL_sum_82 rfl ?_
        refine lv_ladd C.1 C.2.1 dL_sum_83 ?_
        refine lv_lstore_n (lv' := [(1, .long ((37 * (fr (lsT D.S) i (lsB D.S))) + (D.S.2.1 0 i).toInt64)), (3, .int (nI i)), (0, .ref (K 7 0))]) C.1 C.2.1 dL_sum_84 rfl hl (by decide) rfl (fun ls hl => ?_)
        refine lv_ldc2 (v := 41) C.1 C.2.1 C.2.2.2.2.1 (C.2.2.2.2.2.1 _ kl_347) dL_sum_85 ?_
        refine lv_lload_n C.1 C.2.1 dL_sum_88 rfl (lv_at hl 0 rfl) ?_
        refine lv_lmul C.1 C.2.1 dL_sum_89 ?_
        refine lv_aload_n C.1 C.2.1 dL_sum_90 rfl (lv_at hl 2 rfl) ?_
        refine lv_iload_n C.1 C.2.1 dL_sum_91 rfl (lv_at hl 1 rfl) ?_
        refine e_dropsOf C hw h (hi) ml_L_61 ⟨(Nat.le_of_ble_eq_true rfl), (Nat.le_of_ble_eq_true rfl)⟩ ⟨by show _ ≤ 300; omega, by show _ ≤ 1700; omega⟩ hl.1 (Nat.le_of_ble_eq_true rfl) dL_sum_92 (fun H locs hw => ?_)
        refine r_toe (show _ = D.S.2.1 1 i from ((h.rl.2.2.1 i (by omega)).2.trans (if_pos hi)).symm) ?_
        refine lv_i2l (v := (D.S.2.1 1 i).toInt64) C.1 C.2.1 dL_sum_95 rfl ?_
        refine lv_ladd C.1 C.2.1 dL_sum_96 ?_
        refine lv_lstore_n (lv' := [(1, .long ((41 * ((37 * (fr (lsT D.S) i (lsB D.S))) + (D.S.2.1 0 i).toInt64)) + (D.S.2.1 1 i).toInt64)), (3, .int (nI i)), (0, .ref (K 7 0))]) C.1 C.2.1 dL_sum_97 rfl hl (by decide) rfl (fun ls hl => ?_)
        refine lv_iinc (v := nI (i + 1)) (lv' := [(3, .int (nI (i + 1))), (1, .long ((41 * ((37 * (fr (lsT D.S) i (lsB D.S))) + (D.S.2.1 0 i).toInt64)) + (D.S.2.1 1 i).toInt64)), (0, .ref (K 7 0))]) C.1 C.2.1 dL_sum_98 hl (k := 1) rfl (nI_add i 1) (by decide) rfl (fun ls hl => ?_)
        refine lv_goto (tgt := 64) C.1 C.2.1 dL_sum_101 (by decide) ?_
        exact W.widen (k := 10 + 2 * (i + 1)) (n := 60 + 12 * (i + 1)) (by omega) (by omega) (ih64 (i + 1) (by omega) _ _ hw _ (lv_sub hl [0, 1, 2] rfl))
    · rintro i hi9; omega

