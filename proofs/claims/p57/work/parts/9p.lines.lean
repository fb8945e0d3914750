/-! The law: spells, lines -/
theorem la_in {D : CD} {k : Nat} {v : Int32} (hl : D.LL.length ≤ 40) (hk : k < D.LL.length) (hp : (∃ i, i < D.LL.length ∧ nI k = nI i ∧ v = D.LL.getD i 0) ∨ ((nI k < 0 ∨ ¬ nI k < nI D.LL.length) ∧ v = -11)) : v = D.LL.getD k 0 := by
  rcases hp with ⟨i, a, b, e⟩ | ⟨a, e⟩
  · have b := (nI_eq (by omega) (by omega)).mp b
    rw [e, b]
  · rcases a with a | a
    · exact absurd a (nI_pos (by omega))
    · exact absurd ((nI_ltI (by omega) (by omega)).mpr hk) a
theorem la_out {D : CD} {v : Int32} (hl : D.LL.length ≤ 40) (hp : (∃ i, i < D.LL.length ∧ nI D.LL.length = nI i ∧ v = D.LL.getD i 0) ∨ ((nI D.LL.length < 0 ∨ ¬ nI D.LL.length < nI D.LL.length) ∧ v = -11)) : v = -11 := by
  rcases hp with ⟨i, a, b, e⟩ | ⟨a, e⟩
  · have b := (nI_eq (by omega) (by omega)).mp b
    omega
  · exact e
theorem ch_255 {L : List Int32} (h : chL L) {k : Nat} (hk : k < L.length) : L.getD k 0 &&& 255 = L.getD k 0 := by
  obtain ⟨q, hq, e⟩ := h k hk
  rw [e, and255_nI hq]
theorem q_num {c9 : Int} {D : CD} {U : MV_} (h : Sm c9 D U) (hc : c9 ≤ 9000) {k : Nat} (hk : k < nF (U.2 0)) : ∃ w0 w3 w4, (oF (U.2 0) k 0 = nI w0 ∧ w0 < 10000) ∧ (oF (U.2 0) k 3 = nI w3 ∧ w3 < 100) ∧ (oF (U.2 0) k 4 = nI w4 ∧ w4 < 100) := by
  obtain ⟨o2, o3, o4, o5, o0⟩ := h.iz.1.2.1 k hk
  have hf2 : (U.2 0 2).toInt ≤ 9000 := by have := h.iz.2.2.2.2.2; omega
  have key : ∀ x : Int32, 0 ≤ x.toInt → x = nI x.toInt.toNat := fun x hx => i_ext (by have := x.toInt_lt; rw [i_nI (by omega)]; omega)
  exact ⟨_, _, _, ⟨key _ (by omega), by omega⟩, ⟨key _ (by omega), by omega⟩, ⟨key _ (by omega), by omega⟩⟩
theorem q_sum {f : Nat → Int32} (h : bK f) (b : Bool) (x : Int32) : ∃ w, smF f b x x (nF f) = nI w ∧ w < 10000 := by
  obtain ⟨-, a, e⟩ := sm_int h b x x (Nat.le_refl (nF f))
  have h20 := h.1.2.1
  have key : ∀ x : Int32, 0 ≤ x.toInt → x = nI x.toInt.toNat := fun x hx => i_ext (by have := x.toInt_lt; rw [i_nI (by omega)]; omega)
  exact ⟨_, key _ a, by omega⟩
theorem tx_wr {f : Nat → Int32} {k w0 w3 w4 : Nat} (h0 : oF f k 0 = nI w0 ∧ w0 < 10000) (h3 : oF f k 3 = nI w3 ∧ w3 < 100) (h4 : oF f k 4 = nI w4 ∧ w4 < 100) : (byF f k = true → wrL f k = (((([] ++ dgL 4 w0) ++ [98]) ++ dgL 4 w4) ++ [120]) ++ dgL 4 w3) ∧ (byF f k = false → wrL f k = (((([] ++ dgL 4 w0) ++ [115]) ++ dgL 4 w4) ++ [120]) ++ dgL 4 w3) := by
  unfold wrL amL
  rw [h0.1, h3.1, h4.1, nI_clamp (by omega), nI_clamp (by omega), nI_clamp (by omega)]
  refine ⟨fun e => ?_, fun e => ?_⟩
  · rw [if_pos e]
    simp only [List.append_assoc, List.nil_append]
  · rw [if_neg (by rw [e]; decide)]
    simp only [List.append_assoc, List.nil_append]
theorem sbL_n {f : Nat → Int32} {b : Bool} (h : mbF f b (nF f) = none) : sbL f b = [45] := by
  unfold sbL
  rw [h]
theorem sbL_s {f : Nat → Int32} {b : Bool} {j w w3 : Nat} (h : mbF f b (nF f) = some j) (hs : smF f b (oF f j 3) (oF f j 3) (nF f) = nI w ∧ w < 10000) (h3 : oF f j 3 = nI w3 ∧ w3 < 100) : sbL f b = (([] ++ dgL 4 w) ++ [120]) ++ dgL 4 w3 := by
  unfold sbL amL
  rw [h]
  dsimp only
  rw [hs.1, h3.1, nI_clamp (by omega), nI_clamp (by omega)]
  rfl
theorem sbL_ok {c9 : Int} {D : CD} {U : MV_} (h : Sm c9 D U) (hc : c9 ≤ 9000) (b : Bool) : bfit (sbL (U.2 0) b) ∧ (sbL (U.2 0) b).length ≤ 7 := by
  refine ⟨bfit_c7 (sb_ok h.rl h.iz b []).2, ?_⟩
  cases e : mbF (U.2 0) b (nF (U.2 0)) with
  | none => rw [sbL_n e]; decide
  | some j =>
    obtain ⟨w0, w3, w4, h0, h3, h4⟩ := q_num h hc (mb_lt e)
    obtain ⟨w, hw⟩ := q_sum h.iz.1 b (oF (U.2 0) j 3)
    rw [sbL_s e hw h3]
    have a := dgL_l (t := 4) (n := w) (k := 3) (by omega)
    have d := dgL_l (t := 4) (n := w3) (k := 1) (by omega)
    simp only [List.length_append, List.length_nil, List.length_cons]
    omega
theorem no_pl {f : Nat → Int32} {x : Int32} (h : teB f x = false) : plF f x (nF f) = none := by
  unfold teB at h
  cases e : plF f x (nF f) with
  | none => rfl
  | some j => rw [e] at h; cases h

set_option maxHeartbeats 4000000 in
set_option maxRecDepth 100000 in
theorem k_spells {l : Launch} {G : Gx} (hF : SF l G) {c9 : Int} {D : CD} {U : MV_} (h : Sm c9 D U) {a : Nat} {X : va_W} (ht : Txt G a D.LL X) {K r : Nat → Nat → Nat} : MI l G yL_spells cL_spells 5 .boolean 9 50 300 [.ref (K 7 0), .int (nI D.LL.length), .ref a] (cW G K r D X) (fun v (_ : Unit) => v = 1) (fun _ => cW G K r D X) := by
  refine mt_of hF (by decide) (Nat.le_of_ble_eq_true rfl) ?_
  intro p e s m below meth c0 C hin ls hl H locs hw
  have hl : lv_has ls 5 [(0, .ref (K 7 0)), (1, .int (nI D.LL.length)), (2, .ref a)] := hl
  have hll := h.ll
  have hch := h.l7
  refine lv_iload_n C.1 C.2.1 dL_spells_0 rfl (lv_at hl 1 rfl) ?_
  refine lv_aload_n C.1 C.2.1 dL_spells_1 rfl (lv_at hl 2 rfl) ?_
  refine lx_tlen C hw ht (by omega) ⟨(Nat.le_of_ble_eq_true rfl), (Nat.le_of_ble_eq_true rfl)⟩ ⟨by show _ ≤ 50; omega, by show _ ≤ 300; omega⟩ hl.1 (Nat.le_of_ble_eq_true rfl) dL_spells_2 (fun H locs hw => ?_)
  refine lv_icmp_ne (tgt := 12) C.1 C.2.1 dL_spells_5 (by decide) (fun c_5 => absurd (rfl) c_5) (fun c_5 => ?_)
  refine lv_iconst (v := 1) C.1 C.2.1 dL_spells_8 (by decide) ?_
  refine lv_goto (tgt := 13) C.1 C.2.1 dL_spells_9 (by decide) ?_
  refine lv_istore_n (lv' := [(3, .int 1), (0, .ref (K 7 0)), (1, .int (nI D.LL.length)), (2, .ref a)]) C.1 C.2.1 dL_spells_13 rfl hl (by decide) rfl (fun ls hl => ?_)
  refine lv_iconst (v := 0) C.1 C.2.1 dL_spells_14 (by decide) ?_
  refine lv_istore (lv' := [(4, .int 0), (3, .int 1), (0, .ref (K 7 0)), (1, .int (nI D.LL.length)), (2, .ref a)]) C.1 C.2.1 dL_spells_15 hl (by decide) rfl (fun ls hl => ?_)
  refine W.widen (k := 0) (n := 6 * 0) (by omega) (by omega) ?_
  refine w_loop (σ := Nat) G (fun u k => k ≤ D.LL.length ∧ k + u = D.LL.length + 1) (fun k => cW G K r D X) (fun k => k) (fun k => 6 * k) (fun k => [(4, .int (nI k)), (3, .int 1), (2, .ref a), (1, .int (nI D.LL.length)), (0, .ref (K 7 0))]) 5 ?_ ?_ (D.LL.length + 1) 0 (by omega) hw (lv_sub hl [0, 1, 4, 3, 2] rfl)
  · rintro n17 k hk9 ih17 H locs hw ls hl
    replace hw : WH G s (cW G K r D X) H locs := hw
    replace hl : lv_has ls 5 [(4, .int (nI k)), (3, .int 1), (2, .ref a), (1, .int (nI D.LL.length)), (0, .ref (K 7 0))] := hl
    show W p l e _ s m _ below meth c0 H locs (k) (6 * k) _ (F0 m 17 ls [])
    refine lv_iload C.1 C.2.1 dL_spells_17 (lv_at hl 0 rfl) ?_
    refine lv_aload_n C.1 C.2.1 dL_spells_19 rfl (lv_at hl 2 rfl) ?_
    refine lx_tlen C hw ht (by omega) ⟨(Nat.le_of_ble_eq_true rfl), (Nat.le_of_ble_eq_true rfl)⟩ ⟨by show _ ≤ 50; omega, by show _ ≤ 300; omega⟩ hl.1 (Nat.le_of_ble_eq_true rfl) dL_spells_20 (fun H locs hw => ?_)
    refine lv_icmp_ge (tgt := 57) C.1 C.2.1 dL_spells_23 (by decide) (fun c_23 => ?_) (fun c_23 => ?_)
    · obtain rfl : k = D.LL.length := by rw [nI_leI (by omega) (by omega)] at c_23; omega
      refine lv_iload_n C.1 C.2.1 dL_spells_57 rfl (lv_at hl 1 rfl) ?_
      refine lv_if_eq (tgt := 75) C.1 C.2.1 dL_spells_58 (by decide) (fun c_58 => absurd c_58 (by decide)) (fun c_58 => ?_)
      refine lv_aload_n C.1 C.2.1 dL_spells_61 rfl (lv_at hl 4 rfl) ?_
      refine lv_iload_n C.1 C.2.1 dL_spells_62 rfl (lv_at hl 3 rfl) ?_
      refine r_hsi C hw (a_lineAt hF h (nI D.LL.length) (K := K) (r := r) (X := X)) ml_L_303 yf_L_lineAt (As := [.ref (K 7 0), .int (nI D.LL.length)]) rfl rfl ⟨(Nat.le_of_ble_eq_true rfl), (Nat.le_of_ble_eq_true rfl)⟩ ⟨by show _ ≤ 50; omega, by show _ ≤ 300; omega⟩ hl.1 (Nat.le_of_ble_eq_true rfl) dL_spells_63 (fun r_63 _ H locs hp_63 hw => ?_)
      obtain rfl : r_63 = -11 := la_out hll hp_63
      replace hw : WH G s (cW G K r D X) H locs := hw
      refine lv_bipush (v := -11) C.1 C.2.1 dL_spells_66 (by decide) ?_
      refine lv_icmp_ne (tgt := 75) C.1 C.2.1 dL_spells_68 (by decide) (fun c_68 => absurd (rfl) c_68) (fun c_68 => ?_)
      refine lv_iconst (v := 1) C.1 C.2.1 dL_spells_71 (by decide) ?_
      refine lv_goto (tgt := 76) C.1 C.2.1 dL_spells_72 (by decide) ?_
      exact r_iret C hw rfl rfl () (rfl) rfl (by show _ ≤ 50; omega) (by show _ ≤ 300; omega) dL_spells_76
    · have hk : k < D.LL.length := by rw [nI_leI (by omega) (by omega)] at c_23; omega
      refine lv_iload_n C.1 C.2.1 dL_spells_26 rfl (lv_at hl 1 rfl) ?_
      refine lv_if_eq (tgt := 57) C.1 C.2.1 dL_spells_27 (by decide) (fun c_27 => absurd c_27 (by decide)) (fun c_27 => ?_)
      refine lv_aload_n C.1 C.2.1 dL_spells_30 rfl (lv_at hl 4 rfl) ?_
      refine lv_iload C.1 C.2.1 dL_spells_31 (lv_at hl 0 rfl) ?_
      refine r_hsi C hw (a_lineAt hF h (nI k) (K := K) (r := r) (X := X)) ml_L_303 yf_L_lineAt (As := [.ref (K 7 0), .int (nI k)]) rfl rfl ⟨(Nat.le_of_ble_eq_true rfl), (Nat.le_of_ble_eq_true rfl)⟩ ⟨by show _ ≤ 50; omega, by show _ ≤ 300; omega⟩ hl.1 (Nat.le_of_ble_eq_true rfl) dL_spells_33 (fun r_33 _ H locs hp_33 hw => ?_)
      obtain rfl : r_33 = D.LL.getD k 0 := la_in hll hk hp_33
      replace hw : WH G s (cW G K r D X) H locs := hw
      refine lv_aload_n C.1 C.2.1 dL_spells_36 rfl (lv_at hl 2 rfl) ?_
      refine lv_iload C.1 C.2.1 dL_spells_37 (lv_at hl 0 rfl) ?_
      refine lx_tch C hw ht (i := k) hk (by omega) ⟨(Nat.le_of_ble_eq_true rfl), (Nat.le_of_ble_eq_true rfl)⟩ ⟨by show _ ≤ 50; omega, by show _ ≤ 300; omega⟩ hl.1 (Nat.le_of_ble_eq_true rfl) dL_spells_39 (fun H locs hw => ?_)
      refine r_toe (show _ = D.LL.getD k 0 from ch_255 hch hk) ?_
      refine lv_icmp_ne (tgt := 49) C.1 C.2.1 dL_spells_42 (by decide) (fun c_42 => absurd (rfl) c_42) (fun c_42 => ?_)
      refine lv_iconst (v := 1) C.1 C.2.1 dL_spells_45 (by decide) ?_
      refine lv_goto (tgt := 50) C.1 C.2.1 dL_spells_46 (by decide) ?_
      refine lv_istore_n (lv' := [(3, .int 1), (4, .int (nI k)), (2, .ref a), (1, .int (nI D.LL.length)), (0, .ref (K 7 0))]) C.1 C.2.1 dL_spells_50 rfl hl (by decide) rfl (fun ls hl => ?_)
      refine lv_iinc (v := nI (k + 1)) (lv' := [(4, .int (nI (k + 1))), (3, .int 1), (2, .ref a), (1, .int (nI D.LL.length)), (0, .ref (K 7 0))]) C.1 C.2.1 dL_spells_51 hl (k := 1) rfl (nI_add k 1) (by decide) rfl (fun ls hl => ?_)
      refine lv_goto (tgt := 17) C.1 C.2.1 dL_spells_54 (by decide) ?_
      exact W.widen (k := (k + 1)) (n := 6 * (k + 1)) (by omega) (by omega) (ih17 (k + 1) (by omega) _ _ hw _ (lv_sub hl [0, 1, 2, 3, 4] rfl))
  · rintro k hk9; omega

set_option maxHeartbeats 4000000 in
set_option maxRecDepth 100000 in
theorem k_lines {l : Launch} {G : Gx} (hF : SF l G) {c9 : Int} {D : CD} {U : MV_} (h : Sm c9 D U) (hc9 : c9 ≤ 9000) {K r : Nat → Nat → Nat} {X : va_W} : MI l G yL_lines cL_lines 4 .boolean 13 3000 40000 [.ref (K 7 0)] (cW G K r D X) (fun v (D2 : CD) => v = 1 ∧ ∃ U2, Sm c9 D2 U2) (fun D2 => cW G K r D2 X) := by
  refine mt_of hF (by decide) (Nat.le_of_ble_eq_true rfl) ?_
  intro p e s m below meth c0 C hin ls hl H locs hw
  have hl : lv_has ls 4 [(0, .ref (K 7 0))] := hl
  obtain ⟨t312, l312, s312⟩ := lit_312 hF
  obtain ⟨t314, l314, s314⟩ := lit_314 hF
  obtain ⟨t319, l319, s319⟩ := lit_319 hF
  obtain ⟨t331, l331, s331⟩ := lit_331 hF
  obtain ⟨t333, l333, s333⟩ := lit_333 hF
  refine lv_iconst (v := 0) C.1 C.2.1 dL_lines_0 (by decide) ?_
  refine lv_istore_n (lv' := [(1, .int 0), (0, .ref (K 7 0))]) C.1 C.2.1 dL_lines_1 rfl hl (by decide) rfl (fun ls hl => ?_)
  refine W.widen (k := 90 * 0) (n := 1400 * 0) (by omega) (by omega) ?_
  refine w_loop (σ := Nat × CD) G (fun u ⟨k, E⟩ => k ≤ nO D.S ∧ k + u = nO D.S + 1 ∧ E.S = D.S ∧ ∃ V, Sm c9 E V) (fun ⟨k, E⟩ => cW G K r E X) (fun ⟨k, E⟩ => 90 * k) (fun ⟨k, E⟩ => 1400 * k) (fun ⟨k, E⟩ => [(1, .int (nI k)), (0, .ref (K 7 0))]) 4 ?_ ?_ (nO D.S + 1) ⟨0, D⟩ (⟨by omega, by omega, rfl, U, h⟩) hw (lv_sub hl [0, 1] rfl)
  · rintro n2 ⟨k, E⟩ ⟨hk8, hk9, hS, V, hE⟩ ih2 H locs hw ls hl
    replace hw : WH G s (cW G K r E X) H locs := hw
    replace hl : lv_has ls 4 [(1, .int (nI k)), (0, .ref (K 7 0))] := hl
    show W p l e _ s m _ below meth c0 H locs (90 * k) (1400 * k) _ (F0 m 2 ls [])
    have hok := hE.okf
    have hbk := hE.iz.1
    have hn : nF (V.2 0) = nO D.S := by rw [← hS]; exact hE.rl.n.symm
    have h20 := hok.2.1
    have hf2 : (V.2 0 2).toInt ≤ 9999 := by have := hE.iz.2.2.2.2.2; omega
    obtain ⟨bT, lT⟩ := sbL_ok hE hc9 true
    obtain ⟨bL, lL⟩ := sbL_ok hE hc9 false
    refine lv_iload_n C.1 C.2.1 dL_lines_2 rfl (lv_at hl 0 rfl) ?_
    refine lv_aload_n C.1 C.2.1 dL_lines_3 rfl (lv_at hl 1 rfl) ?_
    refine d_orderCount C hw hE ml_L_231 ⟨(Nat.le_of_ble_eq_true rfl), (Nat.le_of_ble_eq_true rfl)⟩ ⟨by show _ ≤ 3000; omega, by show _ ≤ 40000; omega⟩ hl.1 (Nat.le_of_ble_eq_true rfl) dL_lines_4 (fun H locs hw => ?_)
    refine lv_icmp_ge (tgt := 94) C.1 C.2.1 dL_lines_7 (by decide) (fun c_7 => ?_) (fun c_7 => ?_)
    · skip
      refine lv_aload_n C.1 C.2.1 dL_lines_94 rfl (lv_at hl 1 rfl) ?_
      refine r_hsi C hw (a_bestBuy hF hE (K := K) (r := r) (X := X)) ml_L_269 yf_L_bestBuy (As := [.ref (K 7 0)]) rfl rfl ⟨(Nat.le_of_ble_eq_true rfl), (Nat.le_of_ble_eq_true rfl)⟩ ⟨by show _ ≤ 3000; omega, by show _ ≤ 40000; omega⟩ hl.1 (Nat.le_of_ble_eq_true rfl) dL_lines_95 (fun r_95 _ H locs hp_95 hw => ?_)
      obtain rfl : r_95 = bOrd (V.2 0) true (nF (V.2 0)) := hp_95.trans (q_bb true)
      replace hw : WH G s (cW G K r E X) H locs := hw
      refine lv_istore_n (lv' := [(1, .int (bOrd (V.2 0) true (nF (V.2 0)))), (0, .ref (K 7 0))]) C.1 C.2.1 dL_lines_98 rfl hl (by decide) rfl (fun ls hl => ?_)
      refine lv_aload_n C.1 C.2.1 dL_lines_99 rfl (lv_at hl 1 rfl) ?_
      refine r_hsi C hw (a_bestSell hF hE (K := K) (r := r) (X := X)) ml_L_271 yf_L_bestSell (As := [.ref (K 7 0)]) rfl rfl ⟨(Nat.le_of_ble_eq_true rfl), (Nat.le_of_ble_eq_true rfl)⟩ ⟨by show _ ≤ 3000; omega, by show _ ≤ 40000; omega⟩ hl.1 (Nat.le_of_ble_eq_true rfl) dL_lines_100 (fun r_100 _ H locs hp_100 hw => ?_)
      obtain rfl : r_100 = bOrd (V.2 0) false (nF (V.2 0)) := hp_100.trans (q_bb false)
      replace hw : WH G s (cW G K r E X) H locs := hw
      refine lv_istore_n (lv' := [(2, .int (bOrd (V.2 0) false (nF (V.2 0)))), (1, .int (bOrd (V.2 0) true (nF (V.2 0)))), (0, .ref (K 7 0))]) C.1 C.2.1 dL_lines_103 rfl hl (by decide) rfl (fun ls hl => ?_)
      refine lv_iload_n C.1 C.2.1 dL_lines_104 rfl (lv_at hl 1 rfl) ?_
      refine w_join (σ := Nat × va_W) G (pc1 := 150) (fun z => (∃ P9, z.2 = P9 ++ X) ∧ Txt G z.1 (sbL (V.2 0) true) z.2) (fun z => cW G K r E z.2) (fun _ => 90 * k + 2 + 20) (fun _ => 1400 * k + 12 + 400) (fun _ => [(2, .int (bOrd (V.2 0) false (nF (V.2 0)))), (1, .int (bOrd (V.2 0) true (nF (V.2 0)))), (0, .ref (K 7 0))]) (fun z => [.ref z.1]) 4 (fun cont150 => ?_) ?_
      · refine lv_if_ge (tgt := 114) C.1 C.2.1 dL_lines_105 (by decide) (fun c_105 => ?_) (fun c_105 => ?_)
        · obtain ⟨j1, hj105, hm105, ej105⟩ := bO_ge (f := (V.2 0)) (b := true) (k := nF (V.2 0)) (fun q9 => absurd c_105 (Int32.not_le.mpr q9))
          obtain ⟨w0, w3, w4, hn0, hn3, hn4⟩ := q_num hE hc9 hj105
          obtain ⟨w, hs105⟩ := q_sum hbk true (oF (V.2 0) j1 3)
          have g0 := dgL_l (t := 4) (n := w) (k := 3) (by omega)
          have g3 := dgL_l (t := 4) (n := w3) (k := 1) (by omega)
          have hin : inR (oF (V.2 0) j1 3) 1 99 = true := by rw [hn3.1, inR_i, i_nI (by omega), show (1 : Int32).toInt = 1 by decide, show (99 : Int32).toInt = 99 by decide]; have := (hbk.2.1 j1 hj105).2.1; rw [hn3.1, i_nI (by omega)] at this; omega
          refine lx_sbn C hw ⟨by show _ ≤ 3000; omega, by show _ ≤ 40000; omega⟩ ⟨(Nat.le_of_ble_eq_true rfl), (Nat.le_of_ble_eq_true rfl)⟩ hl.1 (fun _ => (Nat.le_of_ble_eq_true rfl)) dL_lines_114 dL_lines_117 dL_lines_118 (fun b114 u114 H locs hu114 hw => ?_)
          replace hw : WH G s (cW G K r E (sbY G b114 u114 [] ++ X)) H locs := hw
          refine lv_aload_n C.1 C.2.1 dL_lines_121 rfl (lv_at hl 2 rfl) ?_
          refine lv_aload_n C.1 C.2.1 dL_lines_122 rfl (lv_at hl 2 rfl) ?_
          refine lv_iload_n C.1 C.2.1 dL_lines_123 rfl (lv_at hl 1 rfl) ?_
          refine r_toe (show _ = oF (V.2 0) j1 0 from ej105) ?_
          refine e_priceOf C hw hE (hj105) ml_L_83 ⟨(Nat.le_of_ble_eq_true rfl), (Nat.le_of_ble_eq_true rfl)⟩ ⟨by show _ ≤ 3000; omega, by show _ ≤ 40000; omega⟩ hl.1 (Nat.le_of_ble_eq_true rfl) dL_lines_124 (fun H locs hw => ?_)
          refine d_buyingAt C hw hE hin ml_L_104 ⟨(Nat.le_of_ble_eq_true rfl), (Nat.le_of_ble_eq_true rfl)⟩ ⟨by show _ ≤ 3000; omega, by show _ ≤ 40000; omega⟩ hl.1 (Nat.le_of_ble_eq_true rfl) dL_lines_127 (fun H locs hw => ?_)
          refine r_toe (show _ = nI w from hs105.1) ?_
          refine lx_sbi C hw hu114 (k := w) (by omega) (by (try simp only [List.length_append, List.length_nil, List.length_cons]); omega) ⟨(Nat.le_of_ble_eq_true rfl), (Nat.le_of_ble_eq_true rfl)⟩ ⟨by show _ ≤ 3000; omega, by show _ ≤ 40000; omega⟩ hl.1 (Nat.le_of_ble_eq_true rfl) dL_lines_130 (fun b130 u130 H locs hu130 hw => ?_)
          replace hw : WH G s (cW G K r E (sbY G b130 u130 ([] ++ dgL 4 w) ++ X)) H locs := hw
          refine r_ldcSw C l319 dL_lines_133 ?_
          refine lx_sbs C hw hu130 (M := [120]) (Or.inl s319) (by unfold bfit; decide) (by (try simp only [List.length_append, List.length_nil, List.length_cons]); omega) (by (try simp only [List.length_append, List.length_nil, List.length_cons]); omega) ⟨(Nat.le_of_ble_eq_true rfl), (Nat.le_of_ble_eq_true rfl)⟩ ⟨by show _ ≤ 3000; omega, by show _ ≤ 40000; omega⟩ hl.1 (Nat.le_of_ble_eq_true rfl) dL_lines_136 (fun b136 u136 H locs hu136 hw => ?_)
          replace hw : WH G s (cW G K r E (sbY G b136 u136 (([] ++ dgL 4 w) ++ [120]) ++ X)) H locs := hw
          refine lv_aload_n C.1 C.2.1 dL_lines_139 rfl (lv_at hl 2 rfl) ?_
          refine lv_iload_n C.1 C.2.1 dL_lines_140 rfl (lv_at hl 1 rfl) ?_
          refine r_toe (show _ = oF (V.2 0) j1 0 from ej105) ?_
          refine e_priceOf C hw hE (hj105) ml_L_83 ⟨(Nat.le_of_ble_eq_true rfl), (Nat.le_of_ble_eq_true rfl)⟩ ⟨by show _ ≤ 3000; omega, by show _ ≤ 40000; omega⟩ hl.1 (Nat.le_of_ble_eq_true rfl) dL_lines_141 (fun H locs hw => ?_)
          refine r_toe (show _ = nI w3 from hn3.1) ?_
          refine lx_sbi C hw hu136 (k := w3) (by omega) (by (try simp only [List.length_append, List.length_nil, List.length_cons]); omega) ⟨(Nat.le_of_ble_eq_true rfl), (Nat.le_of_ble_eq_true rfl)⟩ ⟨by show _ ≤ 3000; omega, by show _ ≤ 40000; omega⟩ hl.1 (Nat.le_of_ble_eq_true rfl) dL_lines_144 (fun b144 u144 H locs hu144 hw => ?_)
          replace hw : WH G s (cW G K r E (sbY G b144 u144 ((([] ++ dgL 4 w) ++ [120]) ++ dgL 4 w3) ++ X)) H locs := hw
          refine lx_sbt C hw hu144 (sb_lt hu144 (by simp only [List.length_append, List.length_nil, List.length_cons]; omega)) ⟨(Nat.le_of_ble_eq_true rfl), (Nat.le_of_ble_eq_true rfl)⟩ ⟨by show _ ≤ 3000; omega, by show _ ≤ 40000; omega⟩ hl.1 (Nat.le_of_ble_eq_true rfl) dL_lines_147 (fun a147 B147 H locs ht147 hw => ?_)
          replace hw : WH G s (cW G K r E (B147 ++ X)) H locs := hw
          exact W.widen (k := 90 * k + 2 + 20) (n := 1400 * k + 12 + 400) (by omega) (by omega) (cont150 ⟨a147, (B147 ++ X)⟩ ⟨⟨B147, rfl⟩, (by rw [sbL_s hm105 hs105 hn3]; exact ht147 _)⟩ _ _ hw _ (lv_sub hl [0, 1, 2] rfl))
        · refine r_ldcSw C l331 dL_lines_108 ?_
          refine lv_goto (tgt := 150) C.1 C.2.1 dL_lines_111 (by decide) ?_
          exact W.widen (k := 90 * k + 2 + 20) (n := 1400 * k + 12 + 400) (by omega) (by omega) (cont150 ⟨t331, X⟩ ⟨⟨[], rfl⟩, Or.inl (by rw [sbL_n (bO_lt hbk (Nat.le_refl _) (Int32.not_le.mp c_105))]; exact s331)⟩ _ _ hw _ (lv_sub hl [0, 1, 2] rfl))
      · rintro ⟨a150j, Y150⟩ hz150 H locs hw ls hl
        obtain ⟨⟨P150, hY150⟩, hT150⟩ := hz150
        replace hY150 : Y150 = P150 ++ X := hY150
        replace hT150 : Txt G a150j (sbL (V.2 0) true) Y150 := hT150
        replace hw : WH G s (cW G K r E Y150) H locs := hw
        replace hl : lv_has ls 4 [(2, .int (bOrd (V.2 0) false (nF (V.2 0)))), (1, .int (bOrd (V.2 0) true (nF (V.2 0)))), (0, .ref (K 7 0))] := hl
        show W p l e _ s m _ below meth c0 H locs (90 * k + 2 + 20) (1400 * k + 12 + 400) _ (F0 m 150 ls [.ref a150j])
        refine lv_astore_n (lv' := [(3, .ref a150j), (2, .int (bOrd (V.2 0) false (nF (V.2 0)))), (1, .int (bOrd (V.2 0) true (nF (V.2 0)))), (0, .ref (K 7 0))]) C.1 C.2.1 dL_lines_150 rfl hl (by decide) rfl (fun ls hl => ?_)
        refine lx_sbn C hw ⟨by show _ ≤ 3000; omega, by show _ ≤ 40000; omega⟩ ⟨(Nat.le_of_ble_eq_true rfl), (Nat.le_of_ble_eq_true rfl)⟩ hl.1 (fun _ => (Nat.le_of_ble_eq_true rfl)) dL_lines_151 dL_lines_154 dL_lines_155 (fun b151 u151 H locs hu151 hw => ?_)
        replace hw : WH G s (cW G K r E (sbY G b151 u151 [] ++ Y150)) H locs := hw
        refine lv_aload_n C.1 C.2.1 dL_lines_158 rfl (lv_at hl 0 rfl) ?_
        refine lx_sbs C hw hu151 (M := sbL (V.2 0) true) hT150 bT (by (try simp only [List.length_append, List.length_nil, List.length_cons]); omega) (by (try simp only [List.length_append, List.length_nil, List.length_cons]); omega) ⟨(Nat.le_of_ble_eq_true rfl), (Nat.le_of_ble_eq_true rfl)⟩ ⟨by show _ ≤ 3000; omega, by show _ ≤ 40000; omega⟩ hl.1 (Nat.le_of_ble_eq_true rfl) dL_lines_159 (fun b159 u159 H locs hu159 hw => ?_)
        replace hw : WH G s (cW G K r E (sbY G b159 u159 ([] ++ (sbL (V.2 0) true)) ++ Y150)) H locs := hw
        refine r_ldcSw C l333 dL_lines_162 ?_
        refine lx_sbs C hw hu159 (M := [47]) (Or.inl s333) (by unfold bfit; decide) (by (try simp only [List.length_append, List.length_nil, List.length_cons]); omega) (by (try simp only [List.length_append, List.length_nil, List.length_cons]); omega) ⟨(Nat.le_of_ble_eq_true rfl), (Nat.le_of_ble_eq_true rfl)⟩ ⟨by show _ ≤ 3000; omega, by show _ ≤ 40000; omega⟩ hl.1 (Nat.le_of_ble_eq_true rfl) dL_lines_165 (fun b165 u165 H locs hu165 hw => ?_)
        replace hw : WH G s (cW G K r E (sbY G b165 u165 (([] ++ (sbL (V.2 0) true)) ++ [47]) ++ Y150)) H locs := hw
        refine lv_iload_n C.1 C.2.1 dL_lines_168 rfl (lv_at hl 1 rfl) ?_
        refine w_join (σ := Nat × va_W) G (pc1 := 214) (fun z => (∃ P9, z.2 = P9 ++ Y150) ∧ Txt G z.1 (sbL (V.2 0) false) z.2) (fun z => cW G K r E (sbY G b165 u165 (([] ++ (sbL (V.2 0) true)) ++ [47]) ++ z.2)) (fun _ => 90 * k + 2 + 20 + 4 + 20) (fun _ => 1400 * k + 12 + 400 + 160 + 400) (fun _ => [(3, .ref a150j), (2, .int (bOrd (V.2 0) false (nF (V.2 0)))), (1, .int (bOrd (V.2 0) true (nF (V.2 0)))), (0, .ref (K 7 0))]) (fun z => [.ref z.1, .ref b165]) 4 (fun cont214 => ?_) ?_
        · refine lv_if_ge (tgt := 178) C.1 C.2.1 dL_lines_169 (by decide) (fun c_169 => ?_) (fun c_169 => ?_)
          · obtain ⟨j2, hj169, hm169, ej169⟩ := bO_ge (f := (V.2 0)) (b := false) (k := nF (V.2 0)) (fun q9 => absurd c_169 (Int32.not_le.mpr q9))
            obtain ⟨w0, w3, w4, hn0, hn3, hn4⟩ := q_num hE hc9 hj169
            obtain ⟨w, hs169⟩ := q_sum hbk false (oF (V.2 0) j2 3)
            have g0 := dgL_l (t := 4) (n := w) (k := 3) (by omega)
            have g3 := dgL_l (t := 4) (n := w3) (k := 1) (by omega)
            have hin : inR (oF (V.2 0) j2 3) 1 99 = true := by rw [hn3.1, inR_i, i_nI (by omega), show (1 : Int32).toInt = 1 by decide, show (99 : Int32).toInt = 99 by decide]; have := (hbk.2.1 j2 hj169).2.1; rw [hn3.1, i_nI (by omega)] at this; omega
            refine lx_sbn C hw ⟨by show _ ≤ 3000; omega, by show _ ≤ 40000; omega⟩ ⟨(Nat.le_of_ble_eq_true rfl), (Nat.le_of_ble_eq_true rfl)⟩ hl.1 (fun _ => (Nat.le_of_ble_eq_true rfl)) dL_lines_178 dL_lines_181 dL_lines_182 (fun b178 u178 H locs hu178 hw => ?_)
            replace hw : WH G s (cW G K r E (sbY G b178 u178 [] ++ (sbY G b165 u165 (([] ++ (sbL (V.2 0) true)) ++ [47]) ++ Y150))) H locs := hw
            refine lv_aload_n C.1 C.2.1 dL_lines_185 rfl (lv_at hl 3 rfl) ?_
            refine lv_aload_n C.1 C.2.1 dL_lines_186 rfl (lv_at hl 3 rfl) ?_
            refine lv_iload_n C.1 C.2.1 dL_lines_187 rfl (lv_at hl 1 rfl) ?_
            refine r_toe (show _ = oF (V.2 0) j2 0 from ej169) ?_
            refine e_priceOf C hw hE (hj169) ml_L_83 ⟨(Nat.le_of_ble_eq_true rfl), (Nat.le_of_ble_eq_true rfl)⟩ ⟨by show _ ≤ 3000; omega, by show _ ≤ 40000; omega⟩ hl.1 (Nat.le_of_ble_eq_true rfl) dL_lines_188 (fun H locs hw => ?_)
            refine d_sellingAt C hw hE hin ml_L_107 ⟨(Nat.le_of_ble_eq_true rfl), (Nat.le_of_ble_eq_true rfl)⟩ ⟨by show _ ≤ 3000; omega, by show _ ≤ 40000; omega⟩ hl.1 (Nat.le_of_ble_eq_true rfl) dL_lines_191 (fun H locs hw => ?_)
            refine r_toe (show _ = nI w from hs169.1) ?_
            refine lx_sbi C hw hu178 (k := w) (by omega) (by (try simp only [List.length_append, List.length_nil, List.length_cons]); omega) ⟨(Nat.le_of_ble_eq_true rfl), (Nat.le_of_ble_eq_true rfl)⟩ ⟨by show _ ≤ 3000; omega, by show _ ≤ 40000; omega⟩ hl.1 (Nat.le_of_ble_eq_true rfl) dL_lines_194 (fun b194 u194 H locs hu194 hw => ?_)
            replace hw : WH G s (cW G K r E (sbY G b194 u194 ([] ++ dgL 4 w) ++ (sbY G b165 u165 (([] ++ (sbL (V.2 0) true)) ++ [47]) ++ Y150))) H locs := hw
            refine r_ldcSw C l319 dL_lines_197 ?_
            refine lx_sbs C hw hu194 (M := [120]) (Or.inl s319) (by unfold bfit; decide) (by (try simp only [List.length_append, List.length_nil, List.length_cons]); omega) (by (try simp only [List.length_append, List.length_nil, List.length_cons]); omega) ⟨(Nat.le_of_ble_eq_true rfl), (Nat.le_of_ble_eq_true rfl)⟩ ⟨by show _ ≤ 3000; omega, by show _ ≤ 40000; omega⟩ hl.1 (Nat.le_of_ble_eq_true rfl) dL_lines_200 (fun b200 u200 H locs hu200 hw => ?_)
            replace hw : WH G s (cW G K r E (sbY G b200 u200 (([] ++ dgL 4 w) ++ [120]) ++ (sbY G b165 u165 (([] ++ (sbL (V.2 0) true)) ++ [47]) ++ Y150))) H locs := hw
            refine lv_aload_n C.1 C.2.1 dL_lines_203 rfl (lv_at hl 3 rfl) ?_
            refine lv_iload_n C.1 C.2.1 dL_lines_204 rfl (lv_at hl 1 rfl) ?_
            refine r_toe (show _ = oF (V.2 0) j2 0 from ej169) ?_
            refine e_priceOf C hw hE (hj169) ml_L_83 ⟨(Nat.le_of_ble_eq_true rfl), (Nat.le_of_ble_eq_true rfl)⟩ ⟨by show _ ≤ 3000; omega, by show _ ≤ 40000; omega⟩ hl.1 (Nat.le_of_ble_eq_true rfl) dL_lines_205 (fun H locs hw => ?_)
            refine r_toe (show _ = nI w3 from hn3.1) ?_
            refine lx_sbi C hw hu200 (k := w3) (by omega) (by (try simp only [List.length_append, List.length_nil, List.length_cons]); omega) ⟨(Nat.le_of_ble_eq_true rfl), (Nat.le_of_ble_eq_true rfl)⟩ ⟨by show _ ≤ 3000; omega, by show _ ≤ 40000; omega⟩ hl.1 (Nat.le_of_ble_eq_true rfl) dL_lines_208 (fun b208 u208 H locs hu208 hw => ?_)
            replace hw : WH G s (cW G K r E (sbY G b208 u208 ((([] ++ dgL 4 w) ++ [120]) ++ dgL 4 w3) ++ (sbY G b165 u165 (([] ++ (sbL (V.2 0) true)) ++ [47]) ++ Y150))) H locs := hw
            refine lx_sbt C hw hu208 (sb_lt hu208 (by simp only [List.length_append, List.length_nil, List.length_cons]; omega)) ⟨(Nat.le_of_ble_eq_true rfl), (Nat.le_of_ble_eq_true rfl)⟩ ⟨by show _ ≤ 3000; omega, by show _ ≤ 40000; omega⟩ hl.1 (Nat.le_of_ble_eq_true rfl) dL_lines_211 (fun a211 B211 H locs ht211 hw => ?_)
            replace hw : WH G s (cW G K r E (B211 ++ (sbY G b165 u165 (([] ++ (sbL (V.2 0) true)) ++ [47]) ++ Y150))) H locs := hw
            replace hw := hw.perm (cw_two G K r E (B211) (sbY G b165 u165 (([] ++ (sbL (V.2 0) true)) ++ [47])) Y150)
            exact W.widen (k := 90 * k + 2 + 20 + 4 + 20) (n := 1400 * k + 12 + 400 + 160 + 400) (by omega) (by omega) (cont214 ⟨a211, (B211 ++ Y150)⟩ ⟨⟨B211, rfl⟩, (by rw [sbL_s hm169 hs169 hn3]; exact ht211 _)⟩ _ _ hw _ (lv_sub hl [0, 1, 2, 3] rfl))
          · refine r_ldcSw C l331 dL_lines_172 ?_
            refine lv_goto (tgt := 214) C.1 C.2.1 dL_lines_175 (by decide) ?_
            exact W.widen (k := 90 * k + 2 + 20 + 4 + 20) (n := 1400 * k + 12 + 400 + 160 + 400) (by omega) (by omega) (cont214 ⟨t331, Y150⟩ ⟨⟨[], rfl⟩, Or.inl (by rw [sbL_n (bO_lt hbk (Nat.le_refl _) (Int32.not_le.mp c_169))]; exact s331)⟩ _ _ hw _ (lv_sub hl [0, 1, 2, 3] rfl))
        · rintro ⟨a214j, Y214⟩ hz214 H locs hw ls hl
          obtain ⟨⟨P214, hY214⟩, hT214⟩ := hz214
          replace hY214 : Y214 = P214 ++ Y150 := hY214
          replace hT214 : Txt G a214j (sbL (V.2 0) false) Y214 := hT214
          replace hw : WH G s (cW G K r E (sbY G b165 u165 (([] ++ (sbL (V.2 0) true)) ++ [47]) ++ Y214)) H locs := hw
          replace hl : lv_has ls 4 [(3, .ref a150j), (2, .int (bOrd (V.2 0) false (nF (V.2 0)))), (1, .int (bOrd (V.2 0) true (nF (V.2 0)))), (0, .ref (K 7 0))] := hl
          show W p l e _ s m _ below meth c0 H locs (90 * k + 2 + 20 + 4 + 20) (1400 * k + 12 + 400 + 160 + 400) _ (F0 m 214 ls [.ref a214j, .ref b165])
          refine lx_sbs C hw hu165 (M := sbL (V.2 0) false) hT214 bL (by (try simp only [List.length_append, List.length_nil, List.length_cons]); omega) (by (try simp only [List.length_append, List.length_nil, List.length_cons]); omega) ⟨(Nat.le_of_ble_eq_true rfl), (Nat.le_of_ble_eq_true rfl)⟩ ⟨by show _ ≤ 3000; omega, by show _ ≤ 40000; omega⟩ hl.1 (Nat.le_of_ble_eq_true rfl) dL_lines_214 (fun b214 u214 H locs hu214 hw => ?_)
          replace hw : WH G s (cW G K r E (sbY G b214 u214 ((([] ++ (sbL (V.2 0) true)) ++ [47]) ++ (sbL (V.2 0) false)) ++ Y214)) H locs := hw
          refine lx_sbt C hw hu214 (sb_lt hu214 (by simp only [List.length_append, List.length_nil, List.length_cons]; omega)) ⟨(Nat.le_of_ble_eq_true rfl), (Nat.le_of_ble_eq_true rfl)⟩ ⟨by show _ ≤ 3000; omega, by show _ ≤ 40000; omega⟩ hl.1 (Nat.le_of_ble_eq_true rfl) dL_lines_217 (fun a217 B217 H locs ht217 hw => ?_)
          replace hw : WH G s (cW G K r E (B217 ++ Y214)) H locs := hw
          refine lv_astore_n (lv' := [(3, .ref a217), (2, .int (bOrd (V.2 0) false (nF (V.2 0)))), (1, .int (bOrd (V.2 0) true (nF (V.2 0)))), (0, .ref (K 7 0))]) C.1 C.2.1 dL_lines_220 rfl hl (by decide) rfl (fun ls hl => ?_)
          refine lv_aload_n C.1 C.2.1 dL_lines_221 rfl (lv_at hl 3 rfl) ?_
          refine lv_aload_n C.1 C.2.1 dL_lines_222 rfl (lv_at hl 3 rfl) ?_
          refine d_writeBook C hw hE ⟨(Nat.le_of_ble_eq_true rfl), (Nat.le_of_ble_eq_true rfl)⟩ ⟨by show _ ≤ 3000; omega, by show _ ≤ 40000; omega⟩ hl.1 (Nat.le_of_ble_eq_true rfl) dL_lines_223 (fun E223 H locs hu9 hS223 hLL hw => ?_)
          obtain ⟨V223, hE223, hV223⟩ := hu9
          replace hw : WH G s (cW G K r E223 (B217 ++ Y214)) H locs := hw
          replace hLL : E223.LL = (([] ++ (sbL (V.2 0) true)) ++ [47]) ++ (sbL (V.2 0) false) := hLL
          refine lv_aload_n C.1 C.2.1 dL_lines_226 rfl (lv_at hl 0 rfl) ?_
          refine r_si C hw (k_spells hF hE223 (a := a217) (X := (B217 ++ Y214)) (by rw [hLL]; exact ht217 _) (K := K) (r := r)) ml_L_327 yf_L_spells (As := [.ref (K 7 0), .int (nI E223.LL.length), .ref a217]) rfl rfl ⟨(Nat.le_of_ble_eq_true rfl), (Nat.le_of_ble_eq_true rfl)⟩ ⟨by show _ ≤ 3000; omega, by show _ ≤ 40000; omega⟩ hl.1 (Nat.le_of_ble_eq_true rfl) dL_lines_227 (fun r_227 _ H locs hp_227 hw => ?_)
          obtain rfl : r_227 = 1 := hp_227
          replace hw : WH G s (cW G K r E223 (B217 ++ Y214)) H locs := hw
          have hbk2 := hE223.iz.1
          have hf3 : (V223.2 0 2).toInt ≤ 9999 := by have := hE223.iz.2.2.2.2.2; omega
          refine lv_if_eq (tgt := 259) C.1 C.2.1 dL_lines_230 (by decide) (fun c_230 => absurd c_230 (by decide)) (fun c_230 => ?_)
          refine lv_aload_n C.1 C.2.1 dL_lines_233 rfl (lv_at hl 3 rfl) ?_
          refine lv_sipush (v := 9999) C.1 C.2.1 dL_lines_234 (by decide) ?_
          refine r_hsi C hw (m_writeOrder hF hE223 9999 (K := K) (r := r) (X := (B217 ++ Y214))) ml_L_325 yf_L_writeOrder (As := [.ref (K 7 0), .int 9999]) rfl rfl ⟨(Nat.le_of_ble_eq_true rfl), (Nat.le_of_ble_eq_true rfl)⟩ ⟨by show _ ≤ 3000; omega, by show _ ≤ 40000; omega⟩ hl.1 (Nat.le_of_ble_eq_true rfl) dL_lines_237 (fun r_237 E237 H locs hp_237 hw => ?_)
          obtain ⟨⟨V237, hE237, hV237⟩, hS237, hwo⟩ := hp_237
          obtain rfl : r_237 = -13 := by
            rcases hwo with ⟨j9, e1, -⟩ | ⟨-, e2⟩
            · rw [no_pl (q_note hbk2 hf3).1] at e1; cases e1
            · exact e2
          replace hw : WH G s (cW G K r E237 (B217 ++ Y214)) H locs := hw
          have hbk3 := hE237.iz.1
          have hf4 : (V237.2 0 2).toInt ≤ 9999 := by have := hE237.iz.2.2.2.2.2; omega
          refine lv_bipush (v := -13) C.1 C.2.1 dL_lines_240 (by decide) ?_
          refine lv_icmp_ne (tgt := 259) C.1 C.2.1 dL_lines_242 (by decide) (fun c_242 => absurd (rfl) c_242) (fun c_242 => ?_)
          refine lv_aload_n C.1 C.2.1 dL_lines_245 rfl (lv_at hl 3 rfl) ?_
          refine lv_iconst (v := -1) C.1 C.2.1 dL_lines_246 (by decide) ?_
          refine r_hsi C hw (m_writeOrder hF hE237 (-1) (K := K) (r := r) (X := (B217 ++ Y214))) ml_L_325 yf_L_writeOrder (As := [.ref (K 7 0), .int (-1)]) rfl rfl ⟨(Nat.le_of_ble_eq_true rfl), (Nat.le_of_ble_eq_true rfl)⟩ ⟨by show _ ≤ 3000; omega, by show _ ≤ 40000; omega⟩ hl.1 (Nat.le_of_ble_eq_true rfl) dL_lines_247 (fun r_247 E247 H locs hp_247 hw => ?_)
          obtain ⟨⟨V247, hE247, hV247⟩, hS247, hwo⟩ := hp_247
          obtain rfl : r_247 = -13 := by
            rcases hwo with ⟨j9, e1, -⟩ | ⟨-, e2⟩
            · rw [no_pl (q_note hbk3 hf4).2] at e1; cases e1
            · exact e2
          replace hw : WH G s (cW G K r E247 (B217 ++ Y214)) H locs := hw
          refine lv_bipush (v := -13) C.1 C.2.1 dL_lines_250 (by decide) ?_
          refine lv_icmp_ne (tgt := 259) C.1 C.2.1 dL_lines_252 (by decide) (fun c_252 => absurd (rfl) c_252) (fun c_252 => ?_)
          refine lv_iconst (v := 1) C.1 C.2.1 dL_lines_255 (by decide) ?_
          refine lv_goto (tgt := 260) C.1 C.2.1 dL_lines_256 (by decide) ?_
          replace hw := cw_few _ hw
          rw [hY214] at hw
          replace hw := cw_few _ hw
          rw [hY150] at hw
          replace hw := cw_few _ hw
          exact r_iret C hw rfl rfl E247 (⟨rfl, _, hE247⟩) rfl (by show _ ≤ 3000; omega) (by show _ ≤ 40000; omega) dL_lines_260
    · have hk : k < nF (V.2 0) := by rw [nI_leI (by omega) (by omega)] at c_7; omega
      obtain ⟨w0, w3, w4, hn0, hn3, hn4⟩ := q_num hE hc9 hk
      have g0 := dgL_l (t := 4) (n := w0) (k := 3) (by omega)
      have g3 := dgL_l (t := 4) (n := w3) (k := 1) (by omega)
      have g4 := dgL_l (t := 4) (n := w4) (k := 1) (by omega)
      refine lv_aload_n C.1 C.2.1 dL_lines_10 rfl (lv_at hl 1 rfl) ?_
      refine lv_iload_n C.1 C.2.1 dL_lines_11 rfl (lv_at hl 0 rfl) ?_
      refine e_orderAt C hw hE (hk) ml_L_73 ⟨(Nat.le_of_ble_eq_true rfl), (Nat.le_of_ble_eq_true rfl)⟩ ⟨by show _ ≤ 3000; omega, by show _ ≤ 40000; omega⟩ hl.1 (Nat.le_of_ble_eq_true rfl) dL_lines_12 (fun H locs hw => ?_)
      refine lv_istore_n (lv' := [(2, .int (oF (V.2 0) k 0)), (1, .int (nI k)), (0, .ref (K 7 0))]) C.1 C.2.1 dL_lines_15 rfl hl (by decide) rfl (fun ls hl => ?_)
      refine lx_sbn C hw ⟨by show _ ≤ 3000; omega, by show _ ≤ 40000; omega⟩ ⟨(Nat.le_of_ble_eq_true rfl), (Nat.le_of_ble_eq_true rfl)⟩ hl.1 (fun _ => (Nat.le_of_ble_eq_true rfl)) dL_lines_16 dL_lines_19 dL_lines_20 (fun b16 u16 H locs hu16 hw => ?_)
      replace hw : WH G s (cW G K r E (sbY G b16 u16 [] ++ X)) H locs := hw
      refine lv_iload_n C.1 C.2.1 dL_lines_23 rfl (lv_at hl 0 rfl) ?_
      refine r_toe (show _ = nI w0 from hn0.1) ?_
      refine lx_sbi C hw hu16 (k := w0) (by omega) (by (try simp only [List.length_append, List.length_nil, List.length_cons]); omega) ⟨(Nat.le_of_ble_eq_true rfl), (Nat.le_of_ble_eq_true rfl)⟩ ⟨by show _ ≤ 3000; omega, by show _ ≤ 40000; omega⟩ hl.1 (Nat.le_of_ble_eq_true rfl) dL_lines_24 (fun b24 u24 H locs hu24 hw => ?_)
      replace hw : WH G s (cW G K r E (sbY G b24 u24 ([] ++ dgL 4 w0) ++ X)) H locs := hw
      refine lv_aload_n C.1 C.2.1 dL_lines_27 rfl (lv_at hl 2 rfl) ?_
      refine lv_iload_n C.1 C.2.1 dL_lines_28 rfl (lv_at hl 0 rfl) ?_
      refine e_isBuying C hw hE (hk) ml_L_79 ⟨(Nat.le_of_ble_eq_true rfl), (Nat.le_of_ble_eq_true rfl)⟩ ⟨by show _ ≤ 3000; omega, by show _ ≤ 40000; omega⟩ hl.1 (Nat.le_of_ble_eq_true rfl) dL_lines_29 (fun H locs hw => ?_)
      rcases hb9 : byF (V.2 0) k with _ | _
      · refine r_toe (show _ = 0 from rfl) ?_
        refine lv_if_eq (tgt := 41) C.1 C.2.1 dL_lines_32 (by decide) (fun c_32 => ?_) (fun c_32 => absurd (rfl) c_32)
        refine r_ldcSw C l314 dL_lines_41 ?_
        refine lx_sbs C hw hu24 (M := [115]) (Or.inl s314) (by unfold bfit; decide) (by (try simp only [List.length_append, List.length_nil, List.length_cons]); omega) (by (try simp only [List.length_append, List.length_nil, List.length_cons]); omega) ⟨(Nat.le_of_ble_eq_true rfl), (Nat.le_of_ble_eq_true rfl)⟩ ⟨by show _ ≤ 3000; omega, by show _ ≤ 40000; omega⟩ hl.1 (Nat.le_of_ble_eq_true rfl) dL_lines_44 (fun b44 u44 H locs hu44 hw => ?_)
        replace hw : WH G s (cW G K r E (sbY G b44 u44 (([] ++ dgL 4 w0) ++ [115]) ++ X)) H locs := hw
        refine lv_aload_n C.1 C.2.1 dL_lines_47 rfl (lv_at hl 2 rfl) ?_
        refine lv_iload_n C.1 C.2.1 dL_lines_48 rfl (lv_at hl 0 rfl) ?_
        refine e_quantityOf C hw hE (hk) ml_L_86 ⟨(Nat.le_of_ble_eq_true rfl), (Nat.le_of_ble_eq_true rfl)⟩ ⟨by show _ ≤ 3000; omega, by show _ ≤ 40000; omega⟩ hl.1 (Nat.le_of_ble_eq_true rfl) dL_lines_49 (fun H locs hw => ?_)
        refine r_toe (show _ = nI w4 from hn4.1) ?_
        refine lx_sbi C hw hu44 (k := w4) (by omega) (by (try simp only [List.length_append, List.length_nil, List.length_cons]); omega) ⟨(Nat.le_of_ble_eq_true rfl), (Nat.le_of_ble_eq_true rfl)⟩ ⟨by show _ ≤ 3000; omega, by show _ ≤ 40000; omega⟩ hl.1 (Nat.le_of_ble_eq_true rfl) dL_lines_52 (fun b52 u52 H locs hu52 hw => ?_)
        replace hw : WH G s (cW G K r E (sbY G b52 u52 ((([] ++ dgL 4 w0) ++ [115]) ++ dgL 4 w4) ++ X)) H locs := hw
        refine r_ldcSw C l319 dL_lines_55 ?_
        refine lx_sbs C hw hu52 (M := [120]) (Or.inl s319) (by unfold bfit; decide) (by (try simp only [List.length_append, List.length_nil, List.length_cons]); omega) (by (try simp only [List.length_append, List.length_nil, List.length_cons]); omega) ⟨(Nat.le_of_ble_eq_true rfl), (Nat.le_of_ble_eq_true rfl)⟩ ⟨by show _ ≤ 3000; omega, by show _ ≤ 40000; omega⟩ hl.1 (Nat.le_of_ble_eq_true rfl) dL_lines_58 (fun b58 u58 H locs hu58 hw => ?_)
        replace hw : WH G s (cW G K r E (sbY G b58 u58 (((([] ++ dgL 4 w0) ++ [115]) ++ dgL 4 w4) ++ [120]) ++ X)) H locs := hw
        refine lv_aload_n C.1 C.2.1 dL_lines_61 rfl (lv_at hl 2 rfl) ?_
        refine lv_iload_n C.1 C.2.1 dL_lines_62 rfl (lv_at hl 0 rfl) ?_
        refine e_priceOf C hw hE (hk) ml_L_83 ⟨(Nat.le_of_ble_eq_true rfl), (Nat.le_of_ble_eq_true rfl)⟩ ⟨by show _ ≤ 3000; omega, by show _ ≤ 40000; omega⟩ hl.1 (Nat.le_of_ble_eq_true rfl) dL_lines_63 (fun H locs hw => ?_)
        refine r_toe (show _ = nI w3 from hn3.1) ?_
        refine lx_sbi C hw hu58 (k := w3) (by omega) (by (try simp only [List.length_append, List.length_nil, List.length_cons]); omega) ⟨(Nat.le_of_ble_eq_true rfl), (Nat.le_of_ble_eq_true rfl)⟩ ⟨by show _ ≤ 3000; omega, by show _ ≤ 40000; omega⟩ hl.1 (Nat.le_of_ble_eq_true rfl) dL_lines_66 (fun b66 u66 H locs hu66 hw => ?_)
        replace hw : WH G s (cW G K r E (sbY G b66 u66 ((((([] ++ dgL 4 w0) ++ [115]) ++ dgL 4 w4) ++ [120]) ++ dgL 4 w3) ++ X)) H locs := hw
        refine lx_sbt C hw hu66 (sb_lt hu66 (by simp only [List.length_append, List.length_nil, List.length_cons]; omega)) ⟨(Nat.le_of_ble_eq_true rfl), (Nat.le_of_ble_eq_true rfl)⟩ ⟨by show _ ≤ 3000; omega, by show _ ≤ 40000; omega⟩ hl.1 (Nat.le_of_ble_eq_true rfl) dL_lines_69 (fun a69 B69 H locs ht69 hw => ?_)
        replace hw : WH G s (cW G K r E (B69 ++ X)) H locs := hw
        refine lv_astore_n (lv' := [(3, .ref a69), (2, .int (oF (V.2 0) k 0)), (1, .int (nI k)), (0, .ref (K 7 0))]) C.1 C.2.1 dL_lines_72 rfl hl (by decide) rfl (fun ls hl => ?_)
        refine lv_aload_n C.1 C.2.1 dL_lines_73 rfl (lv_at hl 3 rfl) ?_
        refine lv_aload_n C.1 C.2.1 dL_lines_74 rfl (lv_at hl 3 rfl) ?_
        refine lv_iload_n C.1 C.2.1 dL_lines_75 rfl (lv_at hl 1 rfl) ?_
        refine r_hsi C hw (m_writeOrder hF hE (oF (V.2 0) k 0) (K := K) (r := r) (X := (B69 ++ X))) ml_L_325 yf_L_writeOrder (As := [.ref (K 7 0), .int (oF (V.2 0) k 0)]) rfl rfl ⟨(Nat.le_of_ble_eq_true rfl), (Nat.le_of_ble_eq_true rfl)⟩ ⟨by show _ ≤ 3000; omega, by show _ ≤ 40000; omega⟩ hl.1 (Nat.le_of_ble_eq_true rfl) dL_lines_76 (fun r_76 E76 H locs hp_76 hw => ?_)
        obtain ⟨⟨V76, hE76, hV76⟩, hS76, hwo⟩ := hp_76
        obtain ⟨j9, e1, e2, e3⟩ := hwo.resolve_right (fun q9 => by rw [q_pl hbk hk] at q9; cases q9.1)
        rw [q_pl hbk hk] at e1
        injection e1 with e1
        subst e1
        have hLL : E76.LL = (((([] ++ dgL 4 w0) ++ [115]) ++ dgL 4 w4) ++ [120]) ++ dgL 4 w3 := e3.trans ((tx_wr hn0 hn3 hn4).2 hb9)
        obtain rfl : r_76 = nI E76.LL.length := e2.trans (by rw [e3])
        replace hw : WH G s (cW G K r E76 (B69 ++ X)) H locs := hw
        refine lv_aload_n C.1 C.2.1 dL_lines_79 rfl (lv_at hl 0 rfl) ?_
        refine r_si C hw (k_spells hF hE76 (a := a69) (X := (B69 ++ X)) (by rw [hLL]; exact ht69 _) (K := K) (r := r)) ml_L_327 yf_L_spells (As := [.ref (K 7 0), .int (nI E76.LL.length), .ref a69]) rfl rfl ⟨(Nat.le_of_ble_eq_true rfl), (Nat.le_of_ble_eq_true rfl)⟩ ⟨by show _ ≤ 3000; omega, by show _ ≤ 40000; omega⟩ hl.1 (Nat.le_of_ble_eq_true rfl) dL_lines_80 (fun r_80 _ H locs hp_80 hw => ?_)
        obtain rfl : r_80 = 1 := hp_80
        replace hw : WH G s (cW G K r E76 (B69 ++ X)) H locs := hw
        refine lv_if_ne (tgt := 88) C.1 C.2.1 dL_lines_83 (by decide) (fun c_83 => ?_) (fun c_83 => absurd c_83 (by decide))
        replace hw := cw_few _ hw
        replace hw : WH G s (cW G K r E76 X) H locs := hw
        refine lv_iinc (v := nI (k + 1)) (lv' := [(1, .int (nI (k + 1))), (3, .ref a69), (2, .int (oF (V.2 0) k 0)), (0, .ref (K 7 0))]) C.1 C.2.1 dL_lines_88 hl (k := 2) rfl (nI_add k 1) (by decide) rfl (fun ls hl => ?_)
        refine lv_goto (tgt := 2) C.1 C.2.1 dL_lines_91 (by decide) ?_
        exact W.widen (k := 90 * (k + 1)) (n := 1400 * (k + 1)) (by omega) (by omega) (ih2 ⟨(k + 1), E76⟩ (⟨by omega, by omega, hS76.1.trans hS, V76, hE76⟩) _ _ hw _ (lv_sub hl [0, 3] rfl))
      · refine r_toe (show _ = 1 from rfl) ?_
        refine lv_if_eq (tgt := 41) C.1 C.2.1 dL_lines_32 (by decide) (fun c_32 => absurd c_32 (by decide)) (fun c_32 => ?_)
        refine r_ldcSw C l312 dL_lines_35 ?_
        refine lv_goto (tgt := 44) C.1 C.2.1 dL_lines_38 (by decide) ?_
        refine lx_sbs C hw hu24 (M := [98]) (Or.inl s312) (by unfold bfit; decide) (by (try simp only [List.length_append, List.length_nil, List.length_cons]); omega) (by (try simp only [List.length_append, List.length_nil, List.length_cons]); omega) ⟨(Nat.le_of_ble_eq_true rfl), (Nat.le_of_ble_eq_true rfl)⟩ ⟨by show _ ≤ 3000; omega, by show _ ≤ 40000; omega⟩ hl.1 (Nat.le_of_ble_eq_true rfl) dL_lines_44 (fun b44 u44 H locs hu44 hw => ?_)
        replace hw : WH G s (cW G K r E (sbY G b44 u44 (([] ++ dgL 4 w0) ++ [98]) ++ X)) H locs := hw
        refine lv_aload_n C.1 C.2.1 dL_lines_47 rfl (lv_at hl 2 rfl) ?_
        refine lv_iload_n C.1 C.2.1 dL_lines_48 rfl (lv_at hl 0 rfl) ?_
        refine e_quantityOf C hw hE (hk) ml_L_86 ⟨(Nat.le_of_ble_eq_true rfl), (Nat.le_of_ble_eq_true rfl)⟩ ⟨by show _ ≤ 3000; omega, by show _ ≤ 40000; omega⟩ hl.1 (Nat.le_of_ble_eq_true rfl) dL_lines_49 (fun H locs hw => ?_)
        refine r_toe (show _ = nI w4 from hn4.1) ?_
        refine lx_sbi C hw hu44 (k := w4) (by omega) (by (try simp only [List.length_append, List.length_nil, List.length_cons]); omega) ⟨(Nat.le_of_ble_eq_true rfl), (Nat.le_of_ble_eq_true rfl)⟩ ⟨by show _ ≤ 3000; omega, by show _ ≤ 40000; omega⟩ hl.1 (Nat.le_of_ble_eq_true rfl) dL_lines_52 (fun b52 u52 H locs hu52 hw => ?_)
        replace hw : WH G s (cW G K r E (sbY G b52 u52 ((([] ++ dgL 4 w0) ++ [98]) ++ dgL 4 w4) ++ X)) H locs := hw
        refine r_ldcSw C l319 dL_lines_55 ?_
        refine lx_sbs C hw hu52 (M := [120]) (Or.inl s319) (by unfold bfit; decide) (by (try simp only [List.length_append, List.length_nil, List.length_cons]); omega) (by (try simp only [List.length_append, List.length_nil, List.length_cons]); omega) ⟨(Nat.le_of_ble_eq_true rfl), (Nat.le_of_ble_eq_true rfl)⟩ ⟨by show _ ≤ 3000; omega, by show _ ≤ 40000; omega⟩ hl.1 (Nat.le_of_ble_eq_true rfl) dL_lines_58 (fun b58 u58 H locs hu58 hw => ?_)
        replace hw : WH G s (cW G K r E (sbY G b58 u58 (((([] ++ dgL 4 w0) ++ [98]) ++ dgL 4 w4) ++ [120]) ++ X)) H locs := hw
        refine lv_aload_n C.1 C.2.1 dL_lines_61 rfl (lv_at hl 2 rfl) ?_
        refine lv_iload_n C.1 C.2.1 dL_lines_62 rfl (lv_at hl 0 rfl) ?_
        refine e_priceOf C hw hE (hk) ml_L_83 ⟨(Nat.le_of_ble_eq_true rfl), (Nat.le_of_ble_eq_true rfl)⟩ ⟨by show _ ≤ 3000; omega, by show _ ≤ 40000; omega⟩ hl.1 (Nat.le_of_ble_eq_true rfl) dL_lines_63 (fun H locs hw => ?_)
        refine r_toe (show _ = nI w3 from hn3.1) ?_
        refine lx_sbi C hw hu58 (k := w3) (by omega) (by (try simp only [List.length_append, List.length_nil, List.length_cons]); omega) ⟨(Nat.le_of_ble_eq_true rfl), (Nat.le_of_ble_eq_true rfl)⟩ ⟨by show _ ≤ 3000; omega, by show _ ≤ 40000; omega⟩ hl.1 (Nat.le_of_ble_eq_true rfl) dL_lines_66 (fun b66 u66 H locs hu66 hw => ?_)
        replace hw : WH G s (cW G K r E (sbY G b66 u66 ((((([] ++ dgL 4 w0) ++ [98]) ++ dgL 4 w4) ++ [120]) ++ dgL 4 w3) ++ X)) H locs := hw
        refine lx_sbt C hw hu66 (sb_lt hu66 (by simp only [List.length_append, List.length_nil, List.length_cons]; omega)) ⟨(Nat.le_of_ble_eq_true rfl), (Nat.le_of_ble_eq_true rfl)⟩ ⟨by show _ ≤ 3000; omega, by show _ ≤ 40000; omega⟩ hl.1 (Nat.le_of_ble_eq_true rfl) dL_lines_69 (fun a69 B69 H locs ht69 hw => ?_)
        replace hw : WH G s (cW G K r E (B69 ++ X)) H locs := hw
        refine lv_astore_n (lv' := [(3, .ref a69), (2, .int (oF (V.2 0) k 0)), (1, .int (nI k)), (0, .ref (K 7 0))]) C.1 C.2.1 dL_lines_72 rfl hl (by decide) rfl (fun ls hl => ?_)
        refine lv_aload_n C.1 C.2.1 dL_lines_73 rfl (lv_at hl 3 rfl) ?_
        refine lv_aload_n C.1 C.2.1 dL_lines_74 rfl (lv_at hl 3 rfl) ?_
        refine lv_iload_n C.1 C.2.1 dL_lines_75 rfl (lv_at hl 1 rfl) ?_
        refine r_hsi C hw (m_writeOrder hF hE (oF (V.2 0) k 0) (K := K) (r := r) (X := (B69 ++ X))) ml_L_325 yf_L_writeOrder (As := [.ref (K 7 0), .int (oF (V.2 0) k 0)]) rfl rfl ⟨(Nat.le_of_ble_eq_true rfl), (Nat.le_of_ble_eq_true rfl)⟩ ⟨by show _ ≤ 3000; omega, by show _ ≤ 40000; omega⟩ hl.1 (Nat.le_of_ble_eq_true rfl) dL_lines_76 (fun r_76 E76 H locs hp_76 hw => ?_)
        obtain ⟨⟨V76, hE76, hV76⟩, hS76, hwo⟩ := hp_76
        obtain ⟨j9, e1, e2, e3⟩ := hwo.resolve_right (fun q9 => by rw [q_pl hbk hk] at q9; cases q9.1)
        rw [q_pl hbk hk] at e1
        injection e1 with e1
        subst e1
        have hLL : E76.LL = (((([] ++ dgL 4 w0) ++ [98]) ++ dgL 4 w4) ++ [120]) ++ dgL 4 w3 := e3.trans ((tx_wr hn0 hn3 hn4).1 hb9)
        obtain rfl : r_76 = nI E76.LL.length := e2.trans (by rw [e3])
        replace hw : WH G s (cW G K r E76 (B69 ++ X)) H locs := hw
        refine lv_aload_n C.1 C.2.1 dL_lines_79 rfl (lv_at hl 0 rfl) ?_
        refine r_si C hw (k_spells hF hE76 (a := a69) (X := (B69 ++ X)) (by rw [hLL]; exact ht69 _) (K := K) (r := r)) ml_L_327 yf_L_spells (As := [.ref (K 7 0), .int (nI E76.LL.length), .ref a69]) rfl rfl ⟨(Nat.le_of_ble_eq_true rfl), (Nat.le_of_ble_eq_true rfl)⟩ ⟨by show _ ≤ 3000; omega, by show _ ≤ 40000; omega⟩ hl.1 (Nat.le_of_ble_eq_true rfl) dL_lines_80 (fun r_80 _ H locs hp_80 hw => ?_)
        obtain rfl : r_80 = 1 := hp_80
        replace hw : WH G s (cW G K r E76 (B69 ++ X)) H locs := hw
        refine lv_if_ne (tgt := 88) C.1 C.2.1 dL_lines_83 (by decide) (fun c_83 => ?_) (fun c_83 => absurd c_83 (by decide))
        replace hw := cw_few _ hw
        replace hw : WH G s (cW G K r E76 X) H locs := hw
        refine lv_iinc (v := nI (k + 1)) (lv' := [(1, .int (nI (k + 1))), (3, .ref a69), (2, .int (oF (V.2 0) k 0)), (0, .ref (K 7 0))]) C.1 C.2.1 dL_lines_88 hl (k := 2) rfl (nI_add k 1) (by decide) rfl (fun ls hl => ?_)
        refine lv_goto (tgt := 2) C.1 C.2.1 dL_lines_91 (by decide) ?_
        exact W.widen (k := 90 * (k + 1)) (n := 1400 * (k + 1)) (by omega) (by omega) (ih2 ⟨(k + 1), E76⟩ (⟨by omega, by omega, hS76.1.trans hS, V76, hE76⟩) _ _ hw _ (lv_sub hl [0, 3] rfl))
  · rintro ⟨k, E⟩ ⟨hk8, hk9, -⟩; omega

