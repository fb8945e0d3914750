/-! The law: undone -/
theorem lg_same (z : Int64) : lg_cmp z z = 0 := by
  unfold lg_cmp
  rw [if_neg (Int64.lt_irrefl), if_pos rfl]
/-- the newest n states of the past are g 0 .. g (n - 1) -/
def HsP (D : CD) (n : Nat) (g : Nat → SV) : Prop := n ≤ D.dp ∧ ∀ j, j < n → D.V (rgI D.nw (n - 1 - j)) = g j
theorem hs_0 (D : CD) (g : Nat → SV) : HsP D 0 g := ⟨Nat.zero_le _, fun j hj => absurd hj (Nat.not_lt_zero j)⟩
theorem hs_step {d : Int} {D D2 : CD} {v : Int32} {n : Nat} {g : Nat → SV} (hs : HsP D n g) (hn : n < 7) (hnw : D.nw < 8) (hv : MuP d D v D2) : (¬ 0 ≤ v → D2.S = D.S ∧ HsP D2 n g) ∧ (0 ≤ v → HsP D2 (n + 1) (fun j => if j = n then D.S else g j)) := by
  obtain ⟨-, hh⟩ := hv
  obtain ⟨hs1, hs2⟩ := hs
  rw [i_le, i_0]
  rcases hh with ⟨a, e1, e2, e3, e4⟩ | ⟨a, e2, e3, e4⟩
  · refine ⟨fun _ => ⟨e1, ?_⟩, fun q => absurd q (by omega)⟩
    unfold HsP
    rw [e2, e3, e4]
    exact ⟨hs1, hs2⟩
  · refine ⟨fun q => absurd a q, fun _ => ?_⟩
    unfold HsP
    rw [e2, e3, e4]
    refine ⟨by omega, fun j hj => ?_⟩
    have hN := rgN_lt D.nw
    show va_up D.V (rgN D.nw) D.S (rgI (rgN D.nw) (n + 1 - 1 - j)) = if j = n then D.S else g j
    by_cases c : j = n
    · rw [if_pos c, c, show n + 1 - 1 - n = 0 by omega, rgI_0 hN, vu_at, if_pos rfl]
    · rw [if_neg c, show n + 1 - 1 - j = (n - 1 - j) + 1 by omega]
      obtain ⟨g1, g2⟩ := rgI_n (i := n - 1 - j) hnw (by omega)
      rw [g1, vu_at, if_neg (g2 (by omega))]
      exact hs2 j (by omega)
theorem hs_pop {D : CD} {n : Nat} {g : Nat → SV} (hs : HsP D n g) (h0 : 0 < n) (hn : n < 8) (hnw : D.nw < 8) : D.dp ≠ 0 ∧ D.V D.nw = g (n - 1) ∧ ∀ D2 : CD, D2.V = D.V → D2.nw = rgP D.nw → D2.dp = D.dp - 1 → HsP D2 (n - 1) g := by
  obtain ⟨hs1, hs2⟩ := hs
  refine ⟨by omega, ?_, fun D2 e1 e2 e3 => ?_⟩
  · have := hs2 (n - 1) (by omega)
    rw [show n - 1 - (n - 1) = 0 by omega, rgI_0 hnw] at this
    exact this
  · unfold HsP
    rw [e1, e2, e3]
    refine ⟨by omega, fun j hj => ?_⟩
    rw [rgI_p hnw (by omega), show n - 1 - 1 - j + 1 = n - 1 - j by omega]
    exact hs2 j (by omega)
theorem up_sums {f : Nat → Int64} {n : Nat} {S : SV} {g : Nat → SV} (hf : ∀ j, j < n → f j = lsS (g j)) : (∀ j, j < n + 1 → vp_updL f n (lsS S) j = lsS ((fun j => if j = n then S else g j) j)) ∧ ∀ j, j < n → vp_updL f n (lsS S) j = lsS (g j) := by
  refine ⟨fun j hj => ?_, fun j hj => (if_neg (by omega)).trans (hf j hj)⟩
  show (if j = n then lsS S else f j) = lsS (if j = n then S else g j)
  by_cases c : j = n
  · rw [if_pos c, if_pos c]
  · rw [if_neg c, if_neg c]
    exact hf j (by omega)
theorem k_pos {k : Nat} (h : ¬ nI k - 1 < 0) : 0 < k := by
  rcases Nat.eq_zero_or_pos k with e | e
  · rw [e] at h
    exact absurd (show nI 0 - 1 < 0 by decide) h
  · exact e

set_option maxHeartbeats 4000000 in
set_option maxRecDepth 100000 in
theorem k_undone {l : Launch} {G : Gx} (hF : SF l G) {b L : Nat} {xs : Nat → Int32} (hT : va_T .int b L (fun j => .int (xs j)) (gA G) G.2.1 G.2.1.heap) (hL : L < 2 ^ 31) {c9 : Int} {D : CD} {U : MV_} (h : Sm c9 D U) (hc9 : c9 ≤ 2000) {K r : Nat → Nat → Nat} {X : va_W} : MI l G yL_undone cL_undone 11 .boolean 13 12000 100000 [.ref b, .ref (K 7 0)] (cW G K r D X) (fun v (_ : CD) => v = 1) (fun D2 => cW G K r D2 X) := by
  refine mt_of hF (by decide) (Nat.le_of_ble_eq_true rfl) ?_
  intro p e s m below meth c0 C hin ls hl H locs hw
  have hl : lv_has ls 11 [(0, .ref b), (1, .ref (K 7 0))] := hl
  obtain ⟨t361, l361, s361⟩ := lit_361 hF
  obtain ⟨t363, l363, s363⟩ := lit_363 hF
  obtain ⟨t365, l365, s365⟩ := lit_365 hF
  obtain ⟨t367, l367, s367⟩ := lit_367 hF
  refine lv_bipush (v := 9) C.1 C.2.1 dL_undone_0 (by decide) ?_
  refine lx_newl C hw (n := 9) rfl (by decide) ⟨by show _ ≤ 12000; omega, by show _ ≤ 100000; omega⟩ dL_undone_2 (fun q2 H locs hw => ?_)
  replace hw : WH G s (cW G K r D ((q2, .inl (G.2.2.1 4, 9, .inr (.inl (fun _ => 0)))) :: X)) H locs := hw
  refine lv_astore_n (lv' := [(2, .ref q2), (0, .ref b), (1, .ref (K 7 0))]) C.1 C.2.1 dL_undone_4 rfl hl (by decide) rfl (fun ls hl => ?_)
  refine lv_iconst (v := 0) C.1 C.2.1 dL_undone_5 (by decide) ?_
  refine lv_istore_n (lv' := [(3, .int 0), (2, .ref q2), (0, .ref b), (1, .ref (K 7 0))]) C.1 C.2.1 dL_undone_6 rfl hl (by decide) rfl (fun ls hl => ?_)
  refine lv_iconst (v := 0) C.1 C.2.1 dL_undone_7 (by decide) ?_
  refine lv_istore (lv' := [(4, .int 0), (3, .int 0), (2, .ref q2), (0, .ref b), (1, .ref (K 7 0))]) C.1 C.2.1 dL_undone_8 hl (by decide) rfl (fun ls hl => ?_)
  refine W.widen (k := 10 + 900 * 0) (n := 60 + 10000 * 0) (by omega) (by omega) ?_
  refine w_loop (σ := Nat × Nat × CD × (Nat → Int64) × (Nat → SV)) G (fun u ⟨i, n, D, f, g⟩ => i ≤ 7 ∧ i + u = 8 ∧ n ≤ i ∧ (∃ U, Sm (2000 + 2600 * (i : Int)) D U) ∧ HsP D n g ∧ ∀ j, j < n → f j = lsS (g j)) (fun ⟨i, n, D, f, g⟩ => cW G K r D ((q2, .inl (G.2.2.1 4, 9, .inr (.inl f))) :: X)) (fun ⟨i, n, D, f, g⟩ => 10 + 900 * i) (fun ⟨i, n, D, f, g⟩ => 60 + 10000 * i) (fun ⟨i, n, D, f, g⟩ => [(4, .int (nI i)), (3, .int (nI n)), (2, .ref q2), (1, .ref (K 7 0)), (0, .ref b)]) 11 ?_ ?_ 8 ⟨0, 0, D, (fun _ => 0), (fun _ => st0)⟩ (⟨by omega, by omega, by omega, ⟨U, h.mono (by omega) (by omega)⟩, hs_0 _ _, fun j hj => absurd hj (Nat.not_lt_zero j)⟩) hw (lv_sub hl [0, 1, 2, 4, 3] rfl)
  · rintro n10 ⟨i, n, D, f, g⟩ ⟨hi8, hi9, hni, ⟨U, h⟩, hs, hf⟩ ih10 H locs hw ls hl
    replace hw : WH G s (cW G K r D ((q2, .inl (G.2.2.1 4, 9, .inr (.inl f))) :: X)) H locs := hw
    replace hl : lv_has ls 11 [(4, .int (nI i)), (3, .int (nI n)), (2, .ref q2), (1, .ref (K 7 0)), (0, .ref b)] := hl
    show W p l e _ s m _ below meth c0 H locs (10 + 900 * i) (60 + 10000 * i) _ (F0 m 10 ls [])
    have hnw := h.nw
    refine lv_iload C.1 C.2.1 dL_undone_10 (lv_at hl 0 rfl) ?_
    refine lv_bipush (v := 7) C.1 C.2.1 dL_undone_12 (by decide) ?_
    refine lv_icmp_ge (tgt := 445) C.1 C.2.1 dL_undone_14 (by decide) (fun c_14 => ?_) (fun c_14 => ?_)
    · obtain rfl : i = 7 := by rw [show (7 : Int32) = nI 7 from rfl, nI_leI (by omega) (by omega)] at c_14; omega
      refine lv_iload_n C.1 C.2.1 dL_undone_445 rfl (lv_at hl 1 rfl) ?_
      refine lv_iconst (v := 1) C.1 C.2.1 dL_undone_446 (by decide) ?_
      refine lv_isub C.1 C.2.1 dL_undone_447 ?_
      refine lv_istore (lv' := [(4, .int (nI n - 1)), (3, .int (nI n)), (2, .ref q2), (1, .ref (K 7 0)), (0, .ref b)]) C.1 C.2.1 dL_undone_448 hl (by decide) rfl (fun ls hl => ?_)
      refine W.widen (k := 7000 + 310 * (8 - n)) (n := 76000 + 1800 * (8 - n)) (by omega) (by omega) ?_
      refine w_loop (σ := Nat × CD) G (fun u ⟨k, D⟩ => u = k + 1 ∧ k ≤ 7 ∧ (∃ U, Sm (21000 - 60 * (k : Int)) D U) ∧ HsP D k g ∧ ∀ j, j < k → f j = lsS (g j)) (fun ⟨k, D⟩ => cW G K r D ((q2, .inl (G.2.2.1 4, 9, .inr (.inl f))) :: X)) (fun ⟨k, D⟩ => 7000 + 310 * (8 - k)) (fun ⟨k, D⟩ => 76000 + 1800 * (8 - k)) (fun ⟨k, D⟩ => [(4, .int (nI k - 1)), (2, .ref q2), (1, .ref (K 7 0)), (0, .ref b)]) 11 ?_ ?_ (n + 1) ⟨n, D⟩ (⟨rfl, by omega, ⟨U, h.mono (by omega) (by omega)⟩, hs, hf⟩) hw (lv_sub hl [0, 2, 3, 4] rfl)
      · rintro n450 ⟨k, D⟩ ⟨hk8, hk9, ⟨U, h⟩, hs, hf⟩ ih450 H locs hw ls hl
        replace hw : WH G s (cW G K r D ((q2, .inl (G.2.2.1 4, 9, .inr (.inl f))) :: X)) H locs := hw
        replace hl : lv_has ls 11 [(4, .int (nI k - 1)), (2, .ref q2), (1, .ref (K 7 0)), (0, .ref b)] := hl
        show W p l e _ s m _ below meth c0 H locs (7000 + 310 * (8 - k)) (76000 + 1800 * (8 - k)) _ (F0 m 450 ls [])
        have hnw := h.nw
        refine lv_iload C.1 C.2.1 dL_undone_450 (lv_at hl 0 rfl) ?_
        refine lv_if_lt (tgt := 482) C.1 C.2.1 dL_undone_452 (by decide) (fun c_452 => ?_) (fun c_452 => ?_)
        · refine lv_iconst (v := 1) C.1 C.2.1 dL_undone_482 (by decide) ?_
          replace hw : WH G s (cW G K r D X) H locs := ((hw.perm (cw_in G K r D _ X)).fewer (List.Sublist.cons _ (List.Sublist.refl _)))
          exact r_iret C hw rfl rfl D (rfl) rfl (by show _ ≤ 12000; omega) (by show _ ≤ 100000; omega) dL_undone_483
        · have hk0 := k_pos c_452
          refine lv_aload_n C.1 C.2.1 dL_undone_455 rfl (lv_at hl 2 rfl) ?_
          refine r_hsi C hw (m_undo hF h (d := 21000 - 60 * ((k : Int) - 1)) (by omega) (by omega) (K := K) (r := r) (X := ((q2, .inl (G.2.2.1 4, 9, .inr (.inl f))) :: X))) ml_L_372 yf_L_undo (As := [.ref (K 7 0)]) rfl rfl ⟨(Nat.le_of_ble_eq_true rfl), (Nat.le_of_ble_eq_true rfl)⟩ ⟨by show _ ≤ 12000; omega, by show _ ≤ 100000; omega⟩ hl.1 (Nat.le_of_ble_eq_true rfl) dL_undone_456 (fun r_456 E456 H locs hp_456 hw => ?_)
          obtain ⟨g1, g2, g3⟩ := hs_pop hs hk0 (by omega) hnw
          obtain ⟨⟨U9, h9⟩, hh9⟩ := hp_456
          obtain ⟨-, hr9, hE9⟩ := hh9.resolve_left (fun q9 => g1 q9.1)
          obtain rfl : r_456 = nI (D.dp - 1) := hr9
          have hS9 : E456.S = g (k - 1) := by rw [hE9]; exact g2
          have hs9 : HsP E456 (k - 1) g := g3 E456 (by rw [hE9]) (by rw [hE9]) (by rw [hE9])
          have hdp9 := h.dp
          replace hw : WH G s (cW G K r E456 ((q2, .inl (G.2.2.1 4, 9, .inr (.inl f))) :: X)) H locs := hw
          refine lv_if_lt (tgt := 474) C.1 C.2.1 dL_undone_459 (by decide) (fun c_459 => absurd c_459 (nI_pos (show D.dp - 1 < 2 ^ 31 by omega))) (fun c_459 => ?_)
          refine lv_aload_n C.1 C.2.1 dL_undone_462 rfl (lv_at hl 2 rfl) ?_
          refine r_sl C hw (k_sum hF h9 (by omega) (K := K) (r := r) (X := ((q2, .inl (G.2.2.1 4, 9, .inr (.inl f))) :: X))) ml_L_355 yf_L_sum (As := [.ref (K 7 0)]) rfl rfl ⟨(Nat.le_of_ble_eq_true rfl), (Nat.le_of_ble_eq_true rfl)⟩ ⟨by show _ ≤ 12000; omega, by show _ ≤ 100000; omega⟩ hl.1 (Nat.le_of_ble_eq_true rfl) dL_undone_463 (fun r_463 _ H locs hp_463 hw => ?_)
          obtain rfl : r_463 = lsS E456.S := hp_463
          replace hw : WH G s (cW G K r E456 ((q2, .inl (G.2.2.1 4, 9, .inr (.inl f))) :: X)) H locs := hw
          refine lv_aload_n C.1 C.2.1 dL_undone_466 rfl (lv_at hl 1 rfl) ?_
          refine lv_iload C.1 C.2.1 dL_undone_467 (lv_at hl 0 rfl) ?_
          refine r_toe (show _ = nI (k - 1) from q_pred hk0) ?_
          refine lx_lald C hw (i := (k - 1)) (by omega) (by omega) dL_undone_469 ?_
          refine W.lcmp C.1 C.2.1 dL_undone_470 ?_
          rw [show lg_cmp (lsS E456.S) (f (k - 1)) = 0 from by rw [show (lsS E456.S) = (f (k - 1)) from by rw [hS9]; exact (hf (k - 1) (by omega)).symm]; exact lg_same _]
          show W p l e _ s m _ below meth c0 H locs (7000 + 310 * (8 - k) + 301) (76000 + 1800 * (8 - k) + 1706) _ (F0 m 471 ls [.int 0])
          refine lv_if_eq (tgt := 476) C.1 C.2.1 dL_undone_471 (by decide) (fun c_471 => ?_) (fun c_471 => absurd (rfl) c_471)
          refine lv_iinc (v := nI (k - 1) - 1) (lv' := [(4, .int (nI (k - 1) - 1)), (2, .ref q2), (1, .ref (K 7 0)), (0, .ref b)]) C.1 C.2.1 dL_undone_476 hl (k := 0) rfl (by rw [q_pred hk0, Int32.sub_eq_add_neg]; rfl) (by decide) rfl (fun ls hl => ?_)
          refine lv_goto (tgt := 450) C.1 C.2.1 dL_undone_479 (by decide) ?_
          exact W.widen (k := 7000 + 310 * (8 - (k - 1))) (n := 76000 + 1800 * (8 - (k - 1))) (by omega) (by omega) (ih450 ⟨(k - 1), E456⟩ (⟨by omega, by omega, ⟨U9, h9.mono (by omega) (by omega)⟩, hs9, fun j hj => hf j (by omega)⟩) _ _ hw _ (lv_sub hl [0, 1, 2, 3] rfl))
      · rintro ⟨k, D⟩ ⟨hk8, -⟩; omega
    · have hi : i < 7 := by rw [show (7 : Int32) = nI 7 from rfl, nI_leI (by omega) (by omega)] at c_14; omega
      refine lv_aload_n C.1 C.2.1 dL_undone_17 rfl (lv_at hl 4 rfl) ?_
      refine lv_bipush (v := 23) C.1 C.2.1 dL_undone_18 (by decide) ?_
      refine lv_iload C.1 C.2.1 dL_undone_20 (lv_at hl 0 rfl) ?_
      refine lv_iadd C.1 C.2.1 dL_undone_22 ?_
      refine r_toe (show _ = nI (23 + i) from nI_add 23 i) ?_
      refine r_si C hw (k_cell hF hT hL ⟨(23 + i), by omega, rfl⟩) ml_L_163 yf_L_cell (As := [.ref b, .int (nI (23 + i))]) rfl rfl ⟨(Nat.le_of_ble_eq_true rfl), (Nat.le_of_ble_eq_true rfl)⟩ ⟨by show _ ≤ 12000; omega, by show _ ≤ 100000; omega⟩ hl.1 (Nat.le_of_ble_eq_true rfl) dL_undone_23 (fun r_23 _ H locs _ hw => ?_)
      refine lv_iconst (v := 1) C.1 C.2.1 dL_undone_26 (by decide) ?_
      refine lx_ush C 1 (by decide) (by decide) (by decide) dL_undone_27 (fun a27 ha27 => ?_)
      refine lv_istore (lv' := [(5, .int (nI a27)), (4, .int (nI i)), (3, .int (nI n)), (2, .ref q2), (1, .ref (K 7 0)), (0, .ref b)]) C.1 C.2.1 dL_undone_28 hl (by decide) rfl (fun ls hl => ?_)
      refine lv_iload C.1 C.2.1 dL_undone_30 (lv_at hl 0 rfl) ?_
      refine lv_iconst (v := 4) C.1 C.2.1 dL_undone_32 (by decide) ?_
      refine lx_ush C 4 (by decide) (by decide) (by decide) dL_undone_33 (fun a33 ha33 => ?_)
      refine lv_istore (lv' := [(6, .int (nI a33)), (5, .int (nI a27)), (4, .int (nI i)), (3, .int (nI n)), (2, .ref q2), (1, .ref (K 7 0)), (0, .ref b)]) C.1 C.2.1 dL_undone_34 hl (by decide) rfl (fun ls hl => ?_)
      refine lv_iload C.1 C.2.1 dL_undone_36 (lv_at hl 0 rfl) ?_
      refine lv_bipush (v := 7) C.1 C.2.1 dL_undone_38 (by decide) ?_
      refine lx_rem C (a := a33) (d := 7) rfl (by omega) (by omega) (by omega) dL_undone_40 ?_
      refine lv_istore (lv' := [(7, .int (nI (a33 % 7))), (6, .int (nI a33)), (5, .int (nI a27)), (4, .int (nI i)), (3, .int (nI n)), (2, .ref q2), (1, .ref (K 7 0)), (0, .ref b)]) C.1 C.2.1 dL_undone_41 hl (by decide) rfl (fun ls hl => ?_)
      refine lv_bipush (v := 18) C.1 C.2.1 dL_undone_43 (by decide) ?_
      refine lv_iload C.1 C.2.1 dL_undone_45 (lv_at hl 1 rfl) ?_
      refine lv_iconst (v := 3) C.1 C.2.1 dL_undone_47 (by decide) ?_
      refine lx_ush C 3 (by decide) (by decide) (by decide) dL_undone_48 (fun a48 ha48 => ?_)
      refine lv_bipush (v := 14) C.1 C.2.1 dL_undone_49 (by decide) ?_
      refine lx_rem C (a := a48) (d := 14) rfl (by omega) (by omega) (by omega) dL_undone_51 ?_
      refine lv_iadd C.1 C.2.1 dL_undone_52 ?_
      refine r_toe (show _ = nI (18 + (a48 % 14)) from nI_add 18 (a48 % 14)) ?_
      refine lv_istore (lv' := [(8, .int (nI (18 + (a48 % 14)))), (7, .int (nI (a33 % 7))), (6, .int (nI a33)), (5, .int (nI a27)), (4, .int (nI i)), (3, .int (nI n)), (2, .ref q2), (1, .ref (K 7 0)), (0, .ref b)]) C.1 C.2.1 dL_undone_53 hl (by decide) rfl (fun ls hl => ?_)
      refine lv_iload C.1 C.2.1 dL_undone_55 (lv_at hl 2 rfl) ?_
      refine lv_bipush (v := 7) C.1 C.2.1 dL_undone_57 (by decide) ?_
      refine lx_ush C 7 (by decide) (by decide) (by decide) dL_undone_59 (fun a59 ha59 => ?_)
      refine lv_bipush (v := 52) C.1 C.2.1 dL_undone_60 (by decide) ?_
      refine lx_rem C (a := a59) (d := 52) rfl (by omega) (by omega) (by omega) dL_undone_62 ?_
      refine lv_istore (lv' := [(9, .int (nI (a59 % 52))), (8, .int (nI (18 + (a48 % 14)))), (7, .int (nI (a33 % 7))), (6, .int (nI a33)), (5, .int (nI a27)), (4, .int (nI i)), (3, .int (nI n)), (2, .ref q2), (1, .ref (K 7 0)), (0, .ref b)]) C.1 C.2.1 dL_undone_63 hl (by decide) rfl (fun ls hl => ?_)
      refine lv_aload_n C.1 C.2.1 dL_undone_65 rfl (lv_at hl 7 rfl) ?_
      refine lv_iload_n C.1 C.2.1 dL_undone_66 rfl (lv_at hl 6 rfl) ?_
      refine lv_aload_n C.1 C.2.1 dL_undone_67 rfl (lv_at hl 8 rfl) ?_
      refine r_sl C hw (k_sum hF h (by omega) (K := K) (r := r) (X := ((q2, .inl (G.2.2.1 4, 9, .inr (.inl f))) :: X))) ml_L_355 yf_L_sum (As := [.ref (K 7 0)]) rfl rfl ⟨(Nat.le_of_ble_eq_true rfl), (Nat.le_of_ble_eq_true rfl)⟩ ⟨by show _ ≤ 12000; omega, by show _ ≤ 100000; omega⟩ hl.1 (Nat.le_of_ble_eq_true rfl) dL_undone_68 (fun r_68 _ H locs hp_68 hw => ?_)
      obtain rfl : r_68 = lsS D.S := hp_68
      replace hw : WH G s (cW G K r D ((q2, .inl (G.2.2.1 4, 9, .inr (.inl f))) :: X)) H locs := hw
      refine lx_last C hw (i := n) (by omega) (by omega) dL_undone_71 (fun H locs hw => ?_)
      replace hw : WH G s (cW G K r D ((q2, .inl (G.2.2.1 4, 9, .inr (.inl (vp_updL f n (lsS D.S))))) :: X)) H locs := hw
      refine lv_iload C.1 C.2.1 dL_undone_72 (lv_at hl 4 rfl) ?_
      refine lv_bipush (v := 12) C.1 C.2.1 dL_undone_74 (by decide) ?_
      refine lx_rem C (a := a27) (d := 12) rfl (by omega) (by omega) (by omega) dL_undone_76 ?_
      refine w_join (σ := Int32 × CD) G (pc1 := 408) (fun z => MuP (2000 + 2600 * ((i : Int) + 1)) D z.1 z.2) (fun z => cW G K r z.2 ((q2, .inl (G.2.2.1 4, 9, .inr (.inl (vp_updL f n (lsS D.S))))) :: X)) (fun _ => 10 + 900 * i + 300 + 250) (fun _ => 60 + 10000 * i + 1700 + 6000) (fun z => [(10, .int z.1), (9, .int (nI (a59 % 52))), (8, .int (nI (18 + (a48 % 14)))), (7, .int (nI (a33 % 7))), (6, .int (nI a33)), (5, .int (nI a27)), (4, .int (nI i)), (3, .int (nI n)), (2, .ref q2), (1, .ref (K 7 0)), (0, .ref b)]) (fun _ => []) 11 (fun cont408 => ?_) ?_
      · have hz77 : (a27 % 12) < 12 := Nat.mod_lt _ (by decide)
        generalize (a27 % 12) = z77 at hz77 ⊢
        rcases (show z77 = 0 ∨ z77 = 1 ∨ z77 = 2 ∨ z77 = 3 ∨ z77 = 4 ∨ z77 = 5 ∨ z77 = 6 ∨ z77 = 7 ∨ z77 = 8 ∨ z77 = 9 ∨ z77 = 10 ∨ z77 = 11 by omega) with rfl | rfl | rfl | rfl | rfl | rfl | rfl | rfl | rfl | rfl | rfl | rfl
        · refine lv_tableIn (off := 59) (tgt := 136) C.1 C.2.1 dL_undone_77 (by decide) (by decide) rfl (by decide) ?_
          refine lv_aload_n C.1 C.2.1 dL_undone_136 rfl (lv_at hl 8 rfl) ?_
          refine lv_iload C.1 C.2.1 dL_undone_137 (lv_at hl 3 rfl) ?_
          refine lv_iconst (v := 3) C.1 C.2.1 dL_undone_139 (by decide) ?_
          refine lx_ush C 3 (by decide) (by decide) (by decide) dL_undone_140 (fun a140 ha140 => ?_)
          refine lv_sipush (v := 10001) C.1 C.2.1 dL_undone_141 (by decide) ?_
          refine lx_rem C (a := a140) (d := 10001) rfl (by omega) (by omega) (by omega) dL_undone_144 ?_
          refine lv_iload C.1 C.2.1 dL_undone_145 (lv_at hl 3 rfl) ?_
          refine lv_bipush (v := 7) C.1 C.2.1 dL_undone_147 (by decide) ?_
          refine lx_ush C 7 (by decide) (by decide) (by decide) dL_undone_149 (fun a149 ha149 => ?_)
          refine lv_sipush (v := 1001) C.1 C.2.1 dL_undone_150 (by decide) ?_
          refine lx_rem C (a := a149) (d := 1001) rfl (by omega) (by omega) (by omega) dL_undone_153 ?_
          refine r_hsi C hw (m_addStall hF h (d := (2000 + 2600 * ((i : Int) + 1))) (by omega) (by omega) (nI (a140 % 10001)) (nI (a149 % 1001)) (K := K) (r := r) (X := ((q2, .inl (G.2.2.1 4, 9, .inr (.inl (vp_updL f n (lsS D.S))))) :: X))) ml_L_167 yf_L_addStall (As := [.ref (K 7 0), .int (nI (a140 % 10001)), .int (nI (a149 % 1001))]) rfl rfl ⟨(Nat.le_of_ble_eq_true rfl), (Nat.le_of_ble_eq_true rfl)⟩ ⟨by show _ ≤ 12000; omega, by show _ ≤ 100000; omega⟩ hl.1 (Nat.le_of_ble_eq_true rfl) dL_undone_154 (fun r_154 D9 H locs hp_154 hw => ?_)
          replace hw : WH G s (cW G K r D9 ((q2, .inl (G.2.2.1 4, 9, .inr (.inl (vp_updL f n (lsS D.S))))) :: X)) H locs := hw
          refine lv_istore (lv' := [(10, .int r_154), (9, .int (nI (a59 % 52))), (8, .int (nI (18 + (a48 % 14)))), (7, .int (nI (a33 % 7))), (6, .int (nI a33)), (5, .int (nI a27)), (4, .int (nI i)), (3, .int (nI n)), (2, .ref q2), (1, .ref (K 7 0)), (0, .ref b)]) C.1 C.2.1 dL_undone_157 hl (by decide) rfl (fun ls hl => ?_)
          refine lv_goto (tgt := 408) C.1 C.2.1 dL_undone_159 (by decide) ?_
          exact W.widen (k := 10 + 900 * i + 300 + 250) (n := 60 + 10000 * i + 1700 + 6000) (by omega) (by omega) (cont408 ⟨r_154, D9⟩ (mu_addStall h (by omega) (by omega) hp_154) _ _ hw _ (lv_sub hl [0, 1, 2, 3, 4, 5, 6, 7, 8, 9, 10] rfl))
        · refine lv_tableIn (off := 85) (tgt := 162) C.1 C.2.1 dL_undone_77 (by decide) (by decide) rfl (by decide) ?_
          refine lv_aload_n C.1 C.2.1 dL_undone_162 rfl (lv_at hl 8 rfl) ?_
          refine lv_iload C.1 C.2.1 dL_undone_163 (lv_at hl 2 rfl) ?_
          refine lv_iload C.1 C.2.1 dL_undone_165 (lv_at hl 1 rfl) ?_
          refine lv_iload C.1 C.2.1 dL_undone_167 (lv_at hl 0 rfl) ?_
          refine r_hsi C hw (m_buy hF h (d := (2000 + 2600 * ((i : Int) + 1))) (by omega) (by omega) (nI (a33 % 7)) (nI (18 + (a48 % 14))) (nI (a59 % 52)) (K := K) (r := r) (X := ((q2, .inl (G.2.2.1 4, 9, .inr (.inl (vp_updL f n (lsS D.S))))) :: X))) ml_L_170 yf_L_buy (As := [.ref (K 7 0), .int (nI (a33 % 7)), .int (nI (18 + (a48 % 14))), .int (nI (a59 % 52))]) rfl rfl ⟨(Nat.le_of_ble_eq_true rfl), (Nat.le_of_ble_eq_true rfl)⟩ ⟨by show _ ≤ 12000; omega, by show _ ≤ 100000; omega⟩ hl.1 (Nat.le_of_ble_eq_true rfl) dL_undone_169 (fun r_169 D9 H locs hp_169 hw => ?_)
          replace hw : WH G s (cW G K r D9 ((q2, .inl (G.2.2.1 4, 9, .inr (.inl (vp_updL f n (lsS D.S))))) :: X)) H locs := hw
          refine lv_istore (lv' := [(10, .int r_169), (9, .int (nI (a59 % 52))), (8, .int (nI (18 + (a48 % 14)))), (7, .int (nI (a33 % 7))), (6, .int (nI a33)), (5, .int (nI a27)), (4, .int (nI i)), (3, .int (nI n)), (2, .ref q2), (1, .ref (K 7 0)), (0, .ref b)]) C.1 C.2.1 dL_undone_172 hl (by decide) rfl (fun ls hl => ?_)
          refine lv_goto (tgt := 408) C.1 C.2.1 dL_undone_174 (by decide) ?_
          exact W.widen (k := 10 + 900 * i + 300 + 250) (n := 60 + 10000 * i + 1700 + 6000) (by omega) (by omega) (cont408 ⟨r_169, D9⟩ (mu_buy h (by omega) (by omega) hp_169) _ _ hw _ (lv_sub hl [0, 1, 2, 3, 4, 5, 6, 7, 8, 9, 10] rfl))
        · refine lv_tableIn (off := 85) (tgt := 162) C.1 C.2.1 dL_undone_77 (by decide) (by decide) rfl (by decide) ?_
          refine lv_aload_n C.1 C.2.1 dL_undone_162 rfl (lv_at hl 8 rfl) ?_
          refine lv_iload C.1 C.2.1 dL_undone_163 (lv_at hl 2 rfl) ?_
          refine lv_iload C.1 C.2.1 dL_undone_165 (lv_at hl 1 rfl) ?_
          refine lv_iload C.1 C.2.1 dL_undone_167 (lv_at hl 0 rfl) ?_
          refine r_hsi C hw (m_buy hF h (d := (2000 + 2600 * ((i : Int) + 1))) (by omega) (by omega) (nI (a33 % 7)) (nI (18 + (a48 % 14))) (nI (a59 % 52)) (K := K) (r := r) (X := ((q2, .inl (G.2.2.1 4, 9, .inr (.inl (vp_updL f n (lsS D.S))))) :: X))) ml_L_170 yf_L_buy (As := [.ref (K 7 0), .int (nI (a33 % 7)), .int (nI (18 + (a48 % 14))), .int (nI (a59 % 52))]) rfl rfl ⟨(Nat.le_of_ble_eq_true rfl), (Nat.le_of_ble_eq_true rfl)⟩ ⟨by show _ ≤ 12000; omega, by show _ ≤ 100000; omega⟩ hl.1 (Nat.le_of_ble_eq_true rfl) dL_undone_169 (fun r_169 D9 H locs hp_169 hw => ?_)
          replace hw : WH G s (cW G K r D9 ((q2, .inl (G.2.2.1 4, 9, .inr (.inl (vp_updL f n (lsS D.S))))) :: X)) H locs := hw
          refine lv_istore (lv' := [(10, .int r_169), (9, .int (nI (a59 % 52))), (8, .int (nI (18 + (a48 % 14)))), (7, .int (nI (a33 % 7))), (6, .int (nI a33)), (5, .int (nI a27)), (4, .int (nI i)), (3, .int (nI n)), (2, .ref q2), (1, .ref (K 7 0)), (0, .ref b)]) C.1 C.2.1 dL_undone_172 hl (by decide) rfl (fun ls hl => ?_)
          refine lv_goto (tgt := 408) C.1 C.2.1 dL_undone_174 (by decide) ?_
          exact W.widen (k := 10 + 900 * i + 300 + 250) (n := 60 + 10000 * i + 1700 + 6000) (by omega) (by omega) (cont408 ⟨r_169, D9⟩ (mu_buy h (by omega) (by omega) hp_169) _ _ hw _ (lv_sub hl [0, 1, 2, 3, 4, 5, 6, 7, 8, 9, 10] rfl))
        · refine lv_tableIn (off := 100) (tgt := 177) C.1 C.2.1 dL_undone_77 (by decide) (by decide) rfl (by decide) ?_
          refine lv_aload_n C.1 C.2.1 dL_undone_177 rfl (lv_at hl 8 rfl) ?_
          refine lv_iload C.1 C.2.1 dL_undone_178 (lv_at hl 2 rfl) ?_
          refine lv_iload C.1 C.2.1 dL_undone_180 (lv_at hl 1 rfl) ?_
          refine lv_iload C.1 C.2.1 dL_undone_182 (lv_at hl 0 rfl) ?_
          refine r_hsi C hw (m_sell hF h (d := (2000 + 2600 * ((i : Int) + 1))) (by omega) (by omega) (nI (a33 % 7)) (nI (18 + (a48 % 14))) (nI (a59 % 52)) (K := K) (r := r) (X := ((q2, .inl (G.2.2.1 4, 9, .inr (.inl (vp_updL f n (lsS D.S))))) :: X))) ml_L_174 yf_L_sell (As := [.ref (K 7 0), .int (nI (a33 % 7)), .int (nI (18 + (a48 % 14))), .int (nI (a59 % 52))]) rfl rfl ⟨(Nat.le_of_ble_eq_true rfl), (Nat.le_of_ble_eq_true rfl)⟩ ⟨by show _ ≤ 12000; omega, by show _ ≤ 100000; omega⟩ hl.1 (Nat.le_of_ble_eq_true rfl) dL_undone_184 (fun r_184 D9 H locs hp_184 hw => ?_)
          replace hw : WH G s (cW G K r D9 ((q2, .inl (G.2.2.1 4, 9, .inr (.inl (vp_updL f n (lsS D.S))))) :: X)) H locs := hw
          refine lv_istore (lv' := [(10, .int r_184), (9, .int (nI (a59 % 52))), (8, .int (nI (18 + (a48 % 14)))), (7, .int (nI (a33 % 7))), (6, .int (nI a33)), (5, .int (nI a27)), (4, .int (nI i)), (3, .int (nI n)), (2, .ref q2), (1, .ref (K 7 0)), (0, .ref b)]) C.1 C.2.1 dL_undone_187 hl (by decide) rfl (fun ls hl => ?_)
          refine lv_goto (tgt := 408) C.1 C.2.1 dL_undone_189 (by decide) ?_
          exact W.widen (k := 10 + 900 * i + 300 + 250) (n := 60 + 10000 * i + 1700 + 6000) (by omega) (by omega) (cont408 ⟨r_184, D9⟩ (mu_sell h (by omega) (by omega) hp_184) _ _ hw _ (lv_sub hl [0, 1, 2, 3, 4, 5, 6, 7, 8, 9, 10] rfl))
        · refine lv_tableIn (off := 100) (tgt := 177) C.1 C.2.1 dL_undone_77 (by decide) (by decide) rfl (by decide) ?_
          refine lv_aload_n C.1 C.2.1 dL_undone_177 rfl (lv_at hl 8 rfl) ?_
          refine lv_iload C.1 C.2.1 dL_undone_178 (lv_at hl 2 rfl) ?_
          refine lv_iload C.1 C.2.1 dL_undone_180 (lv_at hl 1 rfl) ?_
          refine lv_iload C.1 C.2.1 dL_undone_182 (lv_at hl 0 rfl) ?_
          refine r_hsi C hw (m_sell hF h (d := (2000 + 2600 * ((i : Int) + 1))) (by omega) (by omega) (nI (a33 % 7)) (nI (18 + (a48 % 14))) (nI (a59 % 52)) (K := K) (r := r) (X := ((q2, .inl (G.2.2.1 4, 9, .inr (.inl (vp_updL f n (lsS D.S))))) :: X))) ml_L_174 yf_L_sell (As := [.ref (K 7 0), .int (nI (a33 % 7)), .int (nI (18 + (a48 % 14))), .int (nI (a59 % 52))]) rfl rfl ⟨(Nat.le_of_ble_eq_true rfl), (Nat.le_of_ble_eq_true rfl)⟩ ⟨by show _ ≤ 12000; omega, by show _ ≤ 100000; omega⟩ hl.1 (Nat.le_of_ble_eq_true rfl) dL_undone_184 (fun r_184 D9 H locs hp_184 hw => ?_)
          replace hw : WH G s (cW G K r D9 ((q2, .inl (G.2.2.1 4, 9, .inr (.inl (vp_updL f n (lsS D.S))))) :: X)) H locs := hw
          refine lv_istore (lv' := [(10, .int r_184), (9, .int (nI (a59 % 52))), (8, .int (nI (18 + (a48 % 14)))), (7, .int (nI (a33 % 7))), (6, .int (nI a33)), (5, .int (nI a27)), (4, .int (nI i)), (3, .int (nI n)), (2, .ref q2), (1, .ref (K 7 0)), (0, .ref b)]) C.1 C.2.1 dL_undone_187 hl (by decide) rfl (fun ls hl => ?_)
          refine lv_goto (tgt := 408) C.1 C.2.1 dL_undone_189 (by decide) ?_
          exact W.widen (k := 10 + 900 * i + 300 + 250) (n := 60 + 10000 * i + 1700 + 6000) (by omega) (by omega) (cont408 ⟨r_184, D9⟩ (mu_sell h (by omega) (by omega) hp_184) _ _ hw _ (lv_sub hl [0, 1, 2, 3, 4, 5, 6, 7, 8, 9, 10] rfl))
        · refine lv_tableIn (off := 115) (tgt := 192) C.1 C.2.1 dL_undone_77 (by decide) (by decide) rfl (by decide) ?_
          refine lv_iload C.1 C.2.1 dL_undone_192 (lv_at hl 3 rfl) ?_
          refine lv_iconst (v := 2) C.1 C.2.1 dL_undone_194 (by decide) ?_
          refine lx_rem C (a := a33) (d := 2) rfl (by omega) (by omega) (by omega) dL_undone_195 ?_
          refine lv_if_ne (tgt := 220) C.1 C.2.1 dL_undone_196 (by decide) (fun c_196 => ?_) (fun c_196 => ?_)
          · refine lv_aload_n C.1 C.2.1 dL_undone_220 rfl (lv_at hl 8 rfl) ?_
            refine lv_iload C.1 C.2.1 dL_undone_221 (lv_at hl 2 rfl) ?_
            refine lv_iload C.1 C.2.1 dL_undone_223 (lv_at hl 1 rfl) ?_
            refine lv_iload C.1 C.2.1 dL_undone_225 (lv_at hl 0 rfl) ?_
            refine lv_iload C.1 C.2.1 dL_undone_227 (lv_at hl 3 rfl) ?_
            refine lv_bipush (v := 13) C.1 C.2.1 dL_undone_229 (by decide) ?_
            refine lx_ush C 13 (by decide) (by decide) (by decide) dL_undone_231 (fun a231 ha231 => ?_)
            refine lv_bipush (v := 62) C.1 C.2.1 dL_undone_232 (by decide) ?_
            refine lx_rem C (a := a231) (d := 62) rfl (by omega) (by omega) (by omega) dL_undone_234 ?_
            refine r_hsi C hw (m_sellFor hF h (d := (2000 + 2600 * ((i : Int) + 1))) (by omega) (by omega) (nI (a33 % 7)) (nI (18 + (a48 % 14))) (nI (a59 % 52)) (nI (a231 % 62)) (K := K) (r := r) (X := ((q2, .inl (G.2.2.1 4, 9, .inr (.inl (vp_updL f n (lsS D.S))))) :: X))) ml_L_181 yf_L_sellFor (As := [.ref (K 7 0), .int (nI (a33 % 7)), .int (nI (18 + (a48 % 14))), .int (nI (a59 % 52)), .int (nI (a231 % 62))]) rfl rfl ⟨(Nat.le_of_ble_eq_true rfl), (Nat.le_of_ble_eq_true rfl)⟩ ⟨by show _ ≤ 12000; omega, by show _ ≤ 100000; omega⟩ hl.1 (Nat.le_of_ble_eq_true rfl) dL_undone_235 (fun r_235 D9 H locs hp_235 hw => ?_)
            replace hw : WH G s (cW G K r D9 ((q2, .inl (G.2.2.1 4, 9, .inr (.inl (vp_updL f n (lsS D.S))))) :: X)) H locs := hw
            refine lv_istore (lv' := [(10, .int r_235), (9, .int (nI (a59 % 52))), (8, .int (nI (18 + (a48 % 14)))), (7, .int (nI (a33 % 7))), (6, .int (nI a33)), (5, .int (nI a27)), (4, .int (nI i)), (3, .int (nI n)), (2, .ref q2), (1, .ref (K 7 0)), (0, .ref b)]) C.1 C.2.1 dL_undone_238 hl (by decide) rfl (fun ls hl => ?_)
            refine lv_goto (tgt := 408) C.1 C.2.1 dL_undone_240 (by decide) ?_
            exact W.widen (k := 10 + 900 * i + 300 + 250) (n := 60 + 10000 * i + 1700 + 6000) (by omega) (by omega) (cont408 ⟨r_235, D9⟩ (mu_sellFor h (by omega) (by omega) hp_235) _ _ hw _ (lv_sub hl [0, 1, 2, 3, 4, 5, 6, 7, 8, 9, 10] rfl))
          · refine lv_aload_n C.1 C.2.1 dL_undone_199 rfl (lv_at hl 8 rfl) ?_
            refine lv_iload C.1 C.2.1 dL_undone_200 (lv_at hl 2 rfl) ?_
            refine lv_iload C.1 C.2.1 dL_undone_202 (lv_at hl 1 rfl) ?_
            refine lv_iload C.1 C.2.1 dL_undone_204 (lv_at hl 0 rfl) ?_
            refine lv_iload C.1 C.2.1 dL_undone_206 (lv_at hl 3 rfl) ?_
            refine lv_bipush (v := 13) C.1 C.2.1 dL_undone_208 (by decide) ?_
            refine lx_ush C 13 (by decide) (by decide) (by decide) dL_undone_210 (fun a210 ha210 => ?_)
            refine lv_bipush (v := 62) C.1 C.2.1 dL_undone_211 (by decide) ?_
            refine lx_rem C (a := a210) (d := 62) rfl (by omega) (by omega) (by omega) dL_undone_213 ?_
            refine r_hsi C hw (m_buyFor hF h (d := (2000 + 2600 * ((i : Int) + 1))) (by omega) (by omega) (nI (a33 % 7)) (nI (18 + (a48 % 14))) (nI (a59 % 52)) (nI (a210 % 62)) (K := K) (r := r) (X := ((q2, .inl (G.2.2.1 4, 9, .inr (.inl (vp_updL f n (lsS D.S))))) :: X))) ml_L_177 yf_L_buyFor (As := [.ref (K 7 0), .int (nI (a33 % 7)), .int (nI (18 + (a48 % 14))), .int (nI (a59 % 52)), .int (nI (a210 % 62))]) rfl rfl ⟨(Nat.le_of_ble_eq_true rfl), (Nat.le_of_ble_eq_true rfl)⟩ ⟨by show _ ≤ 12000; omega, by show _ ≤ 100000; omega⟩ hl.1 (Nat.le_of_ble_eq_true rfl) dL_undone_214 (fun r_214 D9 H locs hp_214 hw => ?_)
            replace hw : WH G s (cW G K r D9 ((q2, .inl (G.2.2.1 4, 9, .inr (.inl (vp_updL f n (lsS D.S))))) :: X)) H locs := hw
            refine lv_goto (tgt := 238) C.1 C.2.1 dL_undone_217 (by decide) ?_
            refine lv_istore (lv' := [(10, .int r_214), (9, .int (nI (a59 % 52))), (8, .int (nI (18 + (a48 % 14)))), (7, .int (nI (a33 % 7))), (6, .int (nI a33)), (5, .int (nI a27)), (4, .int (nI i)), (3, .int (nI n)), (2, .ref q2), (1, .ref (K 7 0)), (0, .ref b)]) C.1 C.2.1 dL_undone_238 hl (by decide) rfl (fun ls hl => ?_)
            refine lv_goto (tgt := 408) C.1 C.2.1 dL_undone_240 (by decide) ?_
            exact W.widen (k := 10 + 900 * i + 300 + 250) (n := 60 + 10000 * i + 1700 + 6000) (by omega) (by omega) (cont408 ⟨r_214, D9⟩ (mu_buyFor h (by omega) (by omega) hp_214) _ _ hw _ (lv_sub hl [0, 1, 2, 3, 4, 5, 6, 7, 8, 9, 10] rfl))
        · refine lv_tableIn (off := 166) (tgt := 243) C.1 C.2.1 dL_undone_77 (by decide) (by decide) rfl (by decide) ?_
          refine lv_aload_n C.1 C.2.1 dL_undone_243 rfl (lv_at hl 8 rfl) ?_
          refine lv_iload C.1 C.2.1 dL_undone_244 (lv_at hl 2 rfl) ?_
          refine lv_iload C.1 C.2.1 dL_undone_246 (lv_at hl 1 rfl) ?_
          refine lv_iload C.1 C.2.1 dL_undone_248 (lv_at hl 0 rfl) ?_
          refine r_hsi C hw (m_takeBuy hF h (d := (2000 + 2600 * ((i : Int) + 1))) (by omega) (by omega) (nI (a33 % 7)) (nI (18 + (a48 % 14))) (nI (a59 % 52)) (K := K) (r := r) (X := ((q2, .inl (G.2.2.1 4, 9, .inr (.inl (vp_updL f n (lsS D.S))))) :: X))) ml_L_184 yf_L_takeBuy (As := [.ref (K 7 0), .int (nI (a33 % 7)), .int (nI (18 + (a48 % 14))), .int (nI (a59 % 52))]) rfl rfl ⟨(Nat.le_of_ble_eq_true rfl), (Nat.le_of_ble_eq_true rfl)⟩ ⟨by show _ ≤ 12000; omega, by show _ ≤ 100000; omega⟩ hl.1 (Nat.le_of_ble_eq_true rfl) dL_undone_250 (fun r_250 D9 H locs hp_250 hw => ?_)
          replace hw : WH G s (cW G K r D9 ((q2, .inl (G.2.2.1 4, 9, .inr (.inl (vp_updL f n (lsS D.S))))) :: X)) H locs := hw
          refine lv_istore (lv' := [(10, .int r_250), (9, .int (nI (a59 % 52))), (8, .int (nI (18 + (a48 % 14)))), (7, .int (nI (a33 % 7))), (6, .int (nI a33)), (5, .int (nI a27)), (4, .int (nI i)), (3, .int (nI n)), (2, .ref q2), (1, .ref (K 7 0)), (0, .ref b)]) C.1 C.2.1 dL_undone_253 hl (by decide) rfl (fun ls hl => ?_)
          refine lv_goto (tgt := 408) C.1 C.2.1 dL_undone_255 (by decide) ?_
          exact W.widen (k := 10 + 900 * i + 300 + 250) (n := 60 + 10000 * i + 1700 + 6000) (by omega) (by omega) (cont408 ⟨r_250, D9⟩ (mu_takeBuy h (by omega) (by omega) hp_250) _ _ hw _ (lv_sub hl [0, 1, 2, 3, 4, 5, 6, 7, 8, 9, 10] rfl))
        · refine lv_tableIn (off := 181) (tgt := 258) C.1 C.2.1 dL_undone_77 (by decide) (by decide) rfl (by decide) ?_
          refine lv_aload_n C.1 C.2.1 dL_undone_258 rfl (lv_at hl 8 rfl) ?_
          refine lv_iload C.1 C.2.1 dL_undone_259 (lv_at hl 2 rfl) ?_
          refine lv_iload C.1 C.2.1 dL_undone_261 (lv_at hl 1 rfl) ?_
          refine lv_iload C.1 C.2.1 dL_undone_263 (lv_at hl 0 rfl) ?_
          refine r_hsi C hw (m_takeSell hF h (d := (2000 + 2600 * ((i : Int) + 1))) (by omega) (by omega) (nI (a33 % 7)) (nI (18 + (a48 % 14))) (nI (a59 % 52)) (K := K) (r := r) (X := ((q2, .inl (G.2.2.1 4, 9, .inr (.inl (vp_updL f n (lsS D.S))))) :: X))) ml_L_189 yf_L_takeSell (As := [.ref (K 7 0), .int (nI (a33 % 7)), .int (nI (18 + (a48 % 14))), .int (nI (a59 % 52))]) rfl rfl ⟨(Nat.le_of_ble_eq_true rfl), (Nat.le_of_ble_eq_true rfl)⟩ ⟨by show _ ≤ 12000; omega, by show _ ≤ 100000; omega⟩ hl.1 (Nat.le_of_ble_eq_true rfl) dL_undone_265 (fun r_265 D9 H locs hp_265 hw => ?_)
          replace hw : WH G s (cW G K r D9 ((q2, .inl (G.2.2.1 4, 9, .inr (.inl (vp_updL f n (lsS D.S))))) :: X)) H locs := hw
          refine lv_istore (lv' := [(10, .int r_265), (9, .int (nI (a59 % 52))), (8, .int (nI (18 + (a48 % 14)))), (7, .int (nI (a33 % 7))), (6, .int (nI a33)), (5, .int (nI a27)), (4, .int (nI i)), (3, .int (nI n)), (2, .ref q2), (1, .ref (K 7 0)), (0, .ref b)]) C.1 C.2.1 dL_undone_268 hl (by decide) rfl (fun ls hl => ?_)
          refine lv_goto (tgt := 408) C.1 C.2.1 dL_undone_270 (by decide) ?_
          exact W.widen (k := 10 + 900 * i + 300 + 250) (n := 60 + 10000 * i + 1700 + 6000) (by omega) (by omega) (cont408 ⟨r_265, D9⟩ (mu_takeSell h (by omega) (by omega) hp_265) _ _ hw _ (lv_sub hl [0, 1, 2, 3, 4, 5, 6, 7, 8, 9, 10] rfl))
        · refine lv_tableIn (off := 196) (tgt := 273) C.1 C.2.1 dL_undone_77 (by decide) (by decide) rfl (by decide) ?_
          refine lv_aload_n C.1 C.2.1 dL_undone_273 rfl (lv_at hl 8 rfl) ?_
          refine lv_iload C.1 C.2.1 dL_undone_274 (lv_at hl 3 rfl) ?_
          refine lv_bipush (v := 24) C.1 C.2.1 dL_undone_276 (by decide) ?_
          refine lx_rem C (a := a33) (d := 24) rfl (by omega) (by omega) (by omega) dL_undone_278 ?_
          refine r_hsi C hw (m_cancel hF h (d := (2000 + 2600 * ((i : Int) + 1))) (by omega) (by omega) (nI (a33 % 24)) (K := K) (r := r) (X := ((q2, .inl (G.2.2.1 4, 9, .inr (.inl (vp_updL f n (lsS D.S))))) :: X))) ml_L_359 yf_L_cancel (As := [.ref (K 7 0), .int (nI (a33 % 24))]) rfl rfl ⟨(Nat.le_of_ble_eq_true rfl), (Nat.le_of_ble_eq_true rfl)⟩ ⟨by show _ ≤ 12000; omega, by show _ ≤ 100000; omega⟩ hl.1 (Nat.le_of_ble_eq_true rfl) dL_undone_279 (fun r_279 D9 H locs hp_279 hw => ?_)
          replace hw : WH G s (cW G K r D9 ((q2, .inl (G.2.2.1 4, 9, .inr (.inl (vp_updL f n (lsS D.S))))) :: X)) H locs := hw
          refine lv_istore (lv' := [(10, .int r_279), (9, .int (nI (a59 % 52))), (8, .int (nI (18 + (a48 % 14)))), (7, .int (nI (a33 % 7))), (6, .int (nI a33)), (5, .int (nI a27)), (4, .int (nI i)), (3, .int (nI n)), (2, .ref q2), (1, .ref (K 7 0)), (0, .ref b)]) C.1 C.2.1 dL_undone_282 hl (by decide) rfl (fun ls hl => ?_)
          refine lv_goto (tgt := 408) C.1 C.2.1 dL_undone_284 (by decide) ?_
          exact W.widen (k := 10 + 900 * i + 300 + 250) (n := 60 + 10000 * i + 1700 + 6000) (by omega) (by omega) (cont408 ⟨r_279, D9⟩ (hp_279) _ _ hw _ (lv_sub hl [0, 1, 2, 3, 4, 5, 6, 7, 8, 9, 10] rfl))
        · refine lv_tableIn (off := 210) (tgt := 287) C.1 C.2.1 dL_undone_77 (by decide) (by decide) rfl (by decide) ?_
          refine lv_aload_n C.1 C.2.1 dL_undone_287 rfl (lv_at hl 8 rfl) ?_
          refine lv_iload C.1 C.2.1 dL_undone_288 (lv_at hl 3 rfl) ?_
          refine lv_bipush (v := 62) C.1 C.2.1 dL_undone_290 (by decide) ?_
          refine lx_rem C (a := a33) (d := 62) rfl (by omega) (by omega) (by omega) dL_undone_292 ?_
          refine r_hsi C hw (m_pass hF h (d := (2000 + 2600 * ((i : Int) + 1))) (by omega) (by omega) (nI (a33 % 62)) (K := K) (r := r) (X := ((q2, .inl (G.2.2.1 4, 9, .inr (.inl (vp_updL f n (lsS D.S))))) :: X))) ml_L_186 yf_L_pass (As := [.ref (K 7 0), .int (nI (a33 % 62))]) rfl rfl ⟨(Nat.le_of_ble_eq_true rfl), (Nat.le_of_ble_eq_true rfl)⟩ ⟨by show _ ≤ 12000; omega, by show _ ≤ 100000; omega⟩ hl.1 (Nat.le_of_ble_eq_true rfl) dL_undone_293 (fun r_293 D9 H locs hp_293 hw => ?_)
          replace hw : WH G s (cW G K r D9 ((q2, .inl (G.2.2.1 4, 9, .inr (.inl (vp_updL f n (lsS D.S))))) :: X)) H locs := hw
          refine lv_istore (lv' := [(10, .int r_293), (9, .int (nI (a59 % 52))), (8, .int (nI (18 + (a48 % 14)))), (7, .int (nI (a33 % 7))), (6, .int (nI a33)), (5, .int (nI a27)), (4, .int (nI i)), (3, .int (nI n)), (2, .ref q2), (1, .ref (K 7 0)), (0, .ref b)]) C.1 C.2.1 dL_undone_296 hl (by decide) rfl (fun ls hl => ?_)
          refine lv_goto (tgt := 408) C.1 C.2.1 dL_undone_298 (by decide) ?_
          exact W.widen (k := 10 + 900 * i + 300 + 250) (n := 60 + 10000 * i + 1700 + 6000) (by omega) (by omega) (cont408 ⟨r_293, D9⟩ (mu_pass h (by omega) (by omega) hp_293) _ _ hw _ (lv_sub hl [0, 1, 2, 3, 4, 5, 6, 7, 8, 9, 10] rfl))
        · refine lv_tableIn (off := 224) (tgt := 301) C.1 C.2.1 dL_undone_77 (by decide) (by decide) rfl (by decide) ?_
          refine lv_aload_n C.1 C.2.1 dL_undone_301 rfl (lv_at hl 8 rfl) ?_
          refine d_isPoolOpen C hw h ml_L_191 ⟨(Nat.le_of_ble_eq_true rfl), (Nat.le_of_ble_eq_true rfl)⟩ ⟨by show _ ≤ 12000; omega, by show _ ≤ 100000; omega⟩ hl.1 (Nat.le_of_ble_eq_true rfl) dL_undone_302 (fun H locs hw => ?_)
          refine lv_if_eq (tgt := 315) C.1 C.2.1 dL_undone_305 (by decide) (fun c_305 => ?_) (fun c_305 => ?_)
          · refine lv_aload_n C.1 C.2.1 dL_undone_315 rfl (lv_at hl 8 rfl) ?_
            refine r_hsi C hw (m_open hF h (d := (2000 + 2600 * ((i : Int) + 1))) (by omega) (by omega)  (K := K) (r := r) (X := ((q2, .inl (G.2.2.1 4, 9, .inr (.inl (vp_updL f n (lsS D.S))))) :: X))) ml_L_198 yf_L_open (As := [.ref (K 7 0)]) rfl rfl ⟨(Nat.le_of_ble_eq_true rfl), (Nat.le_of_ble_eq_true rfl)⟩ ⟨by show _ ≤ 12000; omega, by show _ ≤ 100000; omega⟩ hl.1 (Nat.le_of_ble_eq_true rfl) dL_undone_316 (fun r_316 D9 H locs hp_316 hw => ?_)
            replace hw : WH G s (cW G K r D9 ((q2, .inl (G.2.2.1 4, 9, .inr (.inl (vp_updL f n (lsS D.S))))) :: X)) H locs := hw
            refine lv_istore (lv' := [(10, .int r_316), (9, .int (nI (a59 % 52))), (8, .int (nI (18 + (a48 % 14)))), (7, .int (nI (a33 % 7))), (6, .int (nI a33)), (5, .int (nI a27)), (4, .int (nI i)), (3, .int (nI n)), (2, .ref q2), (1, .ref (K 7 0)), (0, .ref b)]) C.1 C.2.1 dL_undone_319 hl (by decide) rfl (fun ls hl => ?_)
            refine lv_goto (tgt := 408) C.1 C.2.1 dL_undone_321 (by decide) ?_
            exact W.widen (k := 10 + 900 * i + 300 + 250) (n := 60 + 10000 * i + 1700 + 6000) (by omega) (by omega) (cont408 ⟨r_316, D9⟩ (mu_open h (by omega) (by omega) hp_316) _ _ hw _ (lv_sub hl [0, 1, 2, 3, 4, 5, 6, 7, 8, 9, 10] rfl))
          · refine lv_aload_n C.1 C.2.1 dL_undone_308 rfl (lv_at hl 8 rfl) ?_
            refine r_hsi C hw (m_close hF h (d := (2000 + 2600 * ((i : Int) + 1))) (by omega) (by omega)  (K := K) (r := r) (X := ((q2, .inl (G.2.2.1 4, 9, .inr (.inl (vp_updL f n (lsS D.S))))) :: X))) ml_L_195 yf_L_close (As := [.ref (K 7 0)]) rfl rfl ⟨(Nat.le_of_ble_eq_true rfl), (Nat.le_of_ble_eq_true rfl)⟩ ⟨by show _ ≤ 12000; omega, by show _ ≤ 100000; omega⟩ hl.1 (Nat.le_of_ble_eq_true rfl) dL_undone_309 (fun r_309 D9 H locs hp_309 hw => ?_)
            replace hw : WH G s (cW G K r D9 ((q2, .inl (G.2.2.1 4, 9, .inr (.inl (vp_updL f n (lsS D.S))))) :: X)) H locs := hw
            refine lv_goto (tgt := 319) C.1 C.2.1 dL_undone_312 (by decide) ?_
            refine lv_istore (lv' := [(10, .int r_309), (9, .int (nI (a59 % 52))), (8, .int (nI (18 + (a48 % 14)))), (7, .int (nI (a33 % 7))), (6, .int (nI a33)), (5, .int (nI a27)), (4, .int (nI i)), (3, .int (nI n)), (2, .ref q2), (1, .ref (K 7 0)), (0, .ref b)]) C.1 C.2.1 dL_undone_319 hl (by decide) rfl (fun ls hl => ?_)
            refine lv_goto (tgt := 408) C.1 C.2.1 dL_undone_321 (by decide) ?_
            exact W.widen (k := 10 + 900 * i + 300 + 250) (n := 60 + 10000 * i + 1700 + 6000) (by omega) (by omega) (cont408 ⟨r_309, D9⟩ (mu_close h (by omega) (by omega) hp_309) _ _ hw _ (lv_sub hl [0, 1, 2, 3, 4, 5, 6, 7, 8, 9, 10] rfl))
        · refine lv_tableOut (tgt := 324) C.1 C.2.1 dL_undone_77 (Or.inr (by decide)) (by decide) ?_
          refine lv_aload_n C.1 C.2.1 dL_undone_324 rfl (lv_at hl 8 rfl) ?_
          have hd_1 := dgL_l (t := 4) (n := a33 % 7) (k := 0) (by omega)
          have he_1 := (@dgL_len 4 (a33 % 7)).2
          have hd_2 := dgL_l (t := 4) (n := 18 + a48 % 14) (k := 1) (by omega)
          have he_2 := (@dgL_len 4 (18 + a48 % 14)).2
          have hd_3 := dgL_l (t := 4) (n := a59 % 52) (k := 1) (by omega)
          have he_3 := (@dgL_len 4 (a59 % 52)).2
          refine lx_sbn C hw ⟨by show _ ≤ 12000; omega, by show _ ≤ 100000; omega⟩ ⟨(Nat.le_of_ble_eq_true rfl), (Nat.le_of_ble_eq_true rfl)⟩ hl.1 (fun _ => (Nat.le_of_ble_eq_true rfl)) dL_undone_325 dL_undone_328 dL_undone_329 (fun b325 u325 H locs hu325 hw => ?_)
          replace hw : WH G s (cW G K r D (sbY G b325 u325 [] ++ ((q2, .inl (G.2.2.1 4, 9, .inr (.inl (vp_updL f n (lsS D.S))))) :: X))) H locs := hw
          refine r_ldcSw C l361 dL_undone_332 ?_
          refine lx_sbs C hw hu325 (M := [98, 117, 121, 32]) (Or.inl s361) (by unfold bfit; decide) (by (try simp only [List.length_append, List.length_nil, List.length_cons]); omega) (by (try simp only [List.length_append, List.length_nil, List.length_cons]); omega) ⟨(Nat.le_of_ble_eq_true rfl), (Nat.le_of_ble_eq_true rfl)⟩ ⟨by show _ ≤ 12000; omega, by show _ ≤ 100000; omega⟩ hl.1 (Nat.le_of_ble_eq_true rfl) dL_undone_335 (fun b335 u335 H locs hu335 hw => ?_)
          replace hw : WH G s (cW G K r D (sbY G b335 u335 ([] ++ [98, 117, 121, 32]) ++ ((q2, .inl (G.2.2.1 4, 9, .inr (.inl (vp_updL f n (lsS D.S))))) :: X))) H locs := hw
          refine lv_iload C.1 C.2.1 dL_undone_338 (lv_at hl 2 rfl) ?_
          refine lx_sbi C hw hu335 (k := (a33 % 7)) (by omega) (by (try simp only [List.length_append, List.length_nil, List.length_cons]); omega) ⟨(Nat.le_of_ble_eq_true rfl), (Nat.le_of_ble_eq_true rfl)⟩ ⟨by show _ ≤ 12000; omega, by show _ ≤ 100000; omega⟩ hl.1 (Nat.le_of_ble_eq_true rfl) dL_undone_340 (fun b340 u340 H locs hu340 hw => ?_)
          replace hw : WH G s (cW G K r D (sbY G b340 u340 (([] ++ [98, 117, 121, 32]) ++ dgL 4 (a33 % 7)) ++ ((q2, .inl (G.2.2.1 4, 9, .inr (.inl (vp_updL f n (lsS D.S))))) :: X))) H locs := hw
          refine r_ldcSw C l363 dL_undone_343 ?_
          refine lx_sbs C hw hu340 (M := [32]) (Or.inl s363) (by unfold bfit; decide) (by (try simp only [List.length_append, List.length_nil, List.length_cons]); omega) (by (try simp only [List.length_append, List.length_nil, List.length_cons]); omega) ⟨(Nat.le_of_ble_eq_true rfl), (Nat.le_of_ble_eq_true rfl)⟩ ⟨by show _ ≤ 12000; omega, by show _ ≤ 100000; omega⟩ hl.1 (Nat.le_of_ble_eq_true rfl) dL_undone_346 (fun b346 u346 H locs hu346 hw => ?_)
          replace hw : WH G s (cW G K r D (sbY G b346 u346 ((([] ++ [98, 117, 121, 32]) ++ dgL 4 (a33 % 7)) ++ [32]) ++ ((q2, .inl (G.2.2.1 4, 9, .inr (.inl (vp_updL f n (lsS D.S))))) :: X))) H locs := hw
          refine lv_iload C.1 C.2.1 dL_undone_349 (lv_at hl 1 rfl) ?_
          refine lx_sbi C hw hu346 (k := (18 + (a48 % 14))) (by omega) (by (try simp only [List.length_append, List.length_nil, List.length_cons]); omega) ⟨(Nat.le_of_ble_eq_true rfl), (Nat.le_of_ble_eq_true rfl)⟩ ⟨by show _ ≤ 12000; omega, by show _ ≤ 100000; omega⟩ hl.1 (Nat.le_of_ble_eq_true rfl) dL_undone_351 (fun b351 u351 H locs hu351 hw => ?_)
          replace hw : WH G s (cW G K r D (sbY G b351 u351 (((([] ++ [98, 117, 121, 32]) ++ dgL 4 (a33 % 7)) ++ [32]) ++ dgL 4 (18 + (a48 % 14))) ++ ((q2, .inl (G.2.2.1 4, 9, .inr (.inl (vp_updL f n (lsS D.S))))) :: X))) H locs := hw
          refine r_ldcSw C l363 dL_undone_354 ?_
          refine lx_sbs C hw hu351 (M := [32]) (Or.inl s363) (by unfold bfit; decide) (by (try simp only [List.length_append, List.length_nil, List.length_cons]); omega) (by (try simp only [List.length_append, List.length_nil, List.length_cons]); omega) ⟨(Nat.le_of_ble_eq_true rfl), (Nat.le_of_ble_eq_true rfl)⟩ ⟨by show _ ≤ 12000; omega, by show _ ≤ 100000; omega⟩ hl.1 (Nat.le_of_ble_eq_true rfl) dL_undone_357 (fun b357 u357 H locs hu357 hw => ?_)
          replace hw : WH G s (cW G K r D (sbY G b357 u357 ((((([] ++ [98, 117, 121, 32]) ++ dgL 4 (a33 % 7)) ++ [32]) ++ dgL 4 (18 + (a48 % 14))) ++ [32]) ++ ((q2, .inl (G.2.2.1 4, 9, .inr (.inl (vp_updL f n (lsS D.S))))) :: X))) H locs := hw
          refine lv_iload C.1 C.2.1 dL_undone_360 (lv_at hl 0 rfl) ?_
          refine lx_sbi C hw hu357 (k := (a59 % 52)) (by omega) (by (try simp only [List.length_append, List.length_nil, List.length_cons]); omega) ⟨(Nat.le_of_ble_eq_true rfl), (Nat.le_of_ble_eq_true rfl)⟩ ⟨by show _ ≤ 12000; omega, by show _ ≤ 100000; omega⟩ hl.1 (Nat.le_of_ble_eq_true rfl) dL_undone_362 (fun b362 u362 H locs hu362 hw => ?_)
          replace hw : WH G s (cW G K r D (sbY G b362 u362 (((((([] ++ [98, 117, 121, 32]) ++ dgL 4 (a33 % 7)) ++ [32]) ++ dgL 4 (18 + (a48 % 14))) ++ [32]) ++ dgL 4 (a59 % 52)) ++ ((q2, .inl (G.2.2.1 4, 9, .inr (.inl (vp_updL f n (lsS D.S))))) :: X))) H locs := hw
          refine r_ldcSw C l365 dL_undone_365 ?_
          refine lx_sbs C hw hu362 (M := [59, 112, 97, 115, 115, 32, 49, 59, 115, 101, 108, 108, 32]) (Or.inl s365) (by unfold bfit; decide) (by (try simp only [List.length_append, List.length_nil, List.length_cons]); omega) (by (try simp only [List.length_append, List.length_nil, List.length_cons]); omega) ⟨(Nat.le_of_ble_eq_true rfl), (Nat.le_of_ble_eq_true rfl)⟩ ⟨by show _ ≤ 12000; omega, by show _ ≤ 100000; omega⟩ hl.1 (Nat.le_of_ble_eq_true rfl) dL_undone_368 (fun b368 u368 H locs hu368 hw => ?_)
          replace hw : WH G s (cW G K r D (sbY G b368 u368 ((((((([] ++ [98, 117, 121, 32]) ++ dgL 4 (a33 % 7)) ++ [32]) ++ dgL 4 (18 + (a48 % 14))) ++ [32]) ++ dgL 4 (a59 % 52)) ++ [59, 112, 97, 115, 115, 32, 49, 59, 115, 101, 108, 108, 32]) ++ ((q2, .inl (G.2.2.1 4, 9, .inr (.inl (vp_updL f n (lsS D.S))))) :: X))) H locs := hw
          refine lv_iload C.1 C.2.1 dL_undone_371 (lv_at hl 3 rfl) ?_
          refine lv_iconst (v := 5) C.1 C.2.1 dL_undone_373 (by decide) ?_
          refine lx_ush C 5 (by decide) (by decide) (by decide) dL_undone_374 (fun a374 ha374 => ?_)
          refine lv_bipush (v := 6) C.1 C.2.1 dL_undone_375 (by decide) ?_
          refine lx_rem C (a := a374) (d := 6) rfl (by omega) (by omega) (by omega) dL_undone_377 ?_
          have hd_377 := dgL_l (t := 4) (n := a374 % 6) (k := 0) (by omega)
          have he_377 := (@dgL_len 4 (a374 % 6)).2
          refine lx_sbi C hw hu368 (k := (a374 % 6)) (by omega) (by (try simp only [List.length_append, List.length_nil, List.length_cons]); omega) ⟨(Nat.le_of_ble_eq_true rfl), (Nat.le_of_ble_eq_true rfl)⟩ ⟨by show _ ≤ 12000; omega, by show _ ≤ 100000; omega⟩ hl.1 (Nat.le_of_ble_eq_true rfl) dL_undone_378 (fun b378 u378 H locs hu378 hw => ?_)
          replace hw : WH G s (cW G K r D (sbY G b378 u378 (((((((([] ++ [98, 117, 121, 32]) ++ dgL 4 (a33 % 7)) ++ [32]) ++ dgL 4 (18 + (a48 % 14))) ++ [32]) ++ dgL 4 (a59 % 52)) ++ [59, 112, 97, 115, 115, 32, 49, 59, 115, 101, 108, 108, 32]) ++ dgL 4 (a374 % 6)) ++ ((q2, .inl (G.2.2.1 4, 9, .inr (.inl (vp_updL f n (lsS D.S))))) :: X))) H locs := hw
          refine r_ldcSw C l363 dL_undone_381 ?_
          refine lx_sbs C hw hu378 (M := [32]) (Or.inl s363) (by unfold bfit; decide) (by (try simp only [List.length_append, List.length_nil, List.length_cons]); omega) (by (try simp only [List.length_append, List.length_nil, List.length_cons]); omega) ⟨(Nat.le_of_ble_eq_true rfl), (Nat.le_of_ble_eq_true rfl)⟩ ⟨by show _ ≤ 12000; omega, by show _ ≤ 100000; omega⟩ hl.1 (Nat.le_of_ble_eq_true rfl) dL_undone_384 (fun b384 u384 H locs hu384 hw => ?_)
          replace hw : WH G s (cW G K r D (sbY G b384 u384 ((((((((([] ++ [98, 117, 121, 32]) ++ dgL 4 (a33 % 7)) ++ [32]) ++ dgL 4 (18 + (a48 % 14))) ++ [32]) ++ dgL 4 (a59 % 52)) ++ [59, 112, 97, 115, 115, 32, 49, 59, 115, 101, 108, 108, 32]) ++ dgL 4 (a374 % 6)) ++ [32]) ++ ((q2, .inl (G.2.2.1 4, 9, .inr (.inl (vp_updL f n (lsS D.S))))) :: X))) H locs := hw
          refine lv_iload C.1 C.2.1 dL_undone_387 (lv_at hl 1 rfl) ?_
          refine lv_iconst (v := 2) C.1 C.2.1 dL_undone_389 (by decide) ?_
          refine lv_isub C.1 C.2.1 dL_undone_390 ?_
          refine r_toe (show _ = nI ((18 + (a48 % 14)) - 2) from pk_sub (a := (18 + (a48 % 14))) (b := 2) (by omega)) ?_
          have hd_390 := dgL_l (t := 4) (n := 18 + a48 % 14 - 2) (k := 1) (by omega)
          have he_390 := (@dgL_len 4 (18 + a48 % 14 - 2)).2
          refine lx_sbi C hw hu384 (k := ((18 + (a48 % 14)) - 2)) (by omega) (by (try simp only [List.length_append, List.length_nil, List.length_cons]); omega) ⟨(Nat.le_of_ble_eq_true rfl), (Nat.le_of_ble_eq_true rfl)⟩ ⟨by show _ ≤ 12000; omega, by show _ ≤ 100000; omega⟩ hl.1 (Nat.le_of_ble_eq_true rfl) dL_undone_391 (fun b391 u391 H locs hu391 hw => ?_)
          replace hw : WH G s (cW G K r D (sbY G b391 u391 (((((((((([] ++ [98, 117, 121, 32]) ++ dgL 4 (a33 % 7)) ++ [32]) ++ dgL 4 (18 + (a48 % 14))) ++ [32]) ++ dgL 4 (a59 % 52)) ++ [59, 112, 97, 115, 115, 32, 49, 59, 115, 101, 108, 108, 32]) ++ dgL 4 (a374 % 6)) ++ [32]) ++ dgL 4 ((18 + (a48 % 14)) - 2)) ++ ((q2, .inl (G.2.2.1 4, 9, .inr (.inl (vp_updL f n (lsS D.S))))) :: X))) H locs := hw
          refine r_ldcSw C l367 dL_undone_394 ?_
          refine lx_sbs C hw hu391 (M := [32, 51]) (Or.inl s367) (by unfold bfit; decide) (by (try simp only [List.length_append, List.length_nil, List.length_cons]); omega) (by (try simp only [List.length_append, List.length_nil, List.length_cons]); omega) ⟨(Nat.le_of_ble_eq_true rfl), (Nat.le_of_ble_eq_true rfl)⟩ ⟨by show _ ≤ 12000; omega, by show _ ≤ 100000; omega⟩ hl.1 (Nat.le_of_ble_eq_true rfl) dL_undone_397 (fun b397 u397 H locs hu397 hw => ?_)
          replace hw : WH G s (cW G K r D (sbY G b397 u397 ((((((((((([] ++ [98, 117, 121, 32]) ++ dgL 4 (a33 % 7)) ++ [32]) ++ dgL 4 (18 + (a48 % 14))) ++ [32]) ++ dgL 4 (a59 % 52)) ++ [59, 112, 97, 115, 115, 32, 49, 59, 115, 101, 108, 108, 32]) ++ dgL 4 (a374 % 6)) ++ [32]) ++ dgL 4 ((18 + (a48 % 14)) - 2)) ++ [32, 51]) ++ ((q2, .inl (G.2.2.1 4, 9, .inr (.inl (vp_updL f n (lsS D.S))))) :: X))) H locs := hw
          refine lx_sbt C hw hu397 (sb_lt hu397 (by simp only [List.length_append, List.length_nil, List.length_cons]; omega)) ⟨(Nat.le_of_ble_eq_true rfl), (Nat.le_of_ble_eq_true rfl)⟩ ⟨by show _ ≤ 12000; omega, by show _ ≤ 100000; omega⟩ hl.1 (Nat.le_of_ble_eq_true rfl) dL_undone_400 (fun a400 B400 H locs ht400 hw => ?_)
          replace hw : WH G s (cW G K r D (B400 ++ ((q2, .inl (G.2.2.1 4, 9, .inr (.inl (vp_updL f n (lsS D.S))))) :: X))) H locs := hw
          refine r_si C hw (k_execute hF h (by omega) (a := a400) (M := (((((((((([] ++ [98, 117, 121, 32]) ++ dgL 4 (a33 % 7)) ++ [32]) ++ dgL 4 (18 + (a48 % 14))) ++ [32]) ++ dgL 4 (a59 % 52)) ++ [59, 112, 97, 115, 115, 32, 49, 59, 115, 101, 108, 108, 32]) ++ dgL 4 (a374 % 6)) ++ [32]) ++ dgL 4 ((18 + (a48 % 14)) - 2)) ++ [32, 51]) (X := (B400 ++ ((q2, .inl (G.2.2.1 4, 9, .inr (.inl (vp_updL f n (lsS D.S))))) :: X))) (ht400 _) (by (try simp only [List.length_append, List.length_nil, List.length_cons]); omega) (K := K) (r := r)) ml_L_369 yf_L_execute (As := [.ref (K 7 0), .ref a400]) rfl rfl ⟨(Nat.le_of_ble_eq_true rfl), (Nat.le_of_ble_eq_true rfl)⟩ ⟨by show _ ≤ 12000; omega, by show _ ≤ 100000; omega⟩ hl.1 (Nat.le_of_ble_eq_true rfl) dL_undone_403 (fun r_403 D9 H locs hp_403 hw => ?_)
          replace hw : WH G s (cW G K r D9 (B400 ++ ((q2, .inl (G.2.2.1 4, 9, .inr (.inl (vp_updL f n (lsS D.S))))) :: X))) H locs := hw
          replace hw := cw_few _ hw
          replace hw : WH G s (cW G K r D9 ((q2, .inl (G.2.2.1 4, 9, .inr (.inl (vp_updL f n (lsS D.S))))) :: X)) H locs := hw
          replace hp_403 : MuP (2000 + 2600 * ((i : Int) + 1)) D r_403 D9 := MuP.mono hp_403 (by omega) (by omega)
          refine lv_istore (lv' := [(10, .int r_403), (9, .int (nI (a59 % 52))), (8, .int (nI (18 + (a48 % 14)))), (7, .int (nI (a33 % 7))), (6, .int (nI a33)), (5, .int (nI a27)), (4, .int (nI i)), (3, .int (nI n)), (2, .ref q2), (1, .ref (K 7 0)), (0, .ref b)]) C.1 C.2.1 dL_undone_406 hl (by decide) rfl (fun ls hl => ?_)
          exact W.widen (k := 10 + 900 * i + 300 + 250) (n := 60 + 10000 * i + 1700 + 6000) (by omega) (by omega) (cont408 ⟨r_403, D9⟩ (hp_403) _ _ hw _ (lv_sub hl [0, 1, 2, 3, 4, 5, 6, 7, 8, 9, 10] rfl))
      · rintro ⟨v408, E408⟩ hv408 H locs hw ls hl
        replace hw : WH G s (cW G K r E408 ((q2, .inl (G.2.2.1 4, 9, .inr (.inl (vp_updL f n (lsS D.S))))) :: X)) H locs := hw
        replace hl : lv_has ls 11 [(10, .int v408), (9, .int (nI (a59 % 52))), (8, .int (nI (18 + (a48 % 14)))), (7, .int (nI (a33 % 7))), (6, .int (nI a33)), (5, .int (nI a27)), (4, .int (nI i)), (3, .int (nI n)), (2, .ref q2), (1, .ref (K 7 0)), (0, .ref b)] := hl
        replace hv408 : MuP (2000 + 2600 * ((i : Int) + 1)) D v408 E408 := hv408
        obtain ⟨U9, h9⟩ := hv408.1
        show W p l e _ s m _ below meth c0 H locs (10 + 900 * i + 300 + 250) (60 + 10000 * i + 1700 + 6000) _ (F0 m 408 ls [])
        refine lv_iload C.1 C.2.1 dL_undone_408 (lv_at hl 0 rfl) ?_
        refine lv_if_ge (tgt := 426) C.1 C.2.1 dL_undone_410 (by decide) (fun c_410 => ?_) (fun c_410 => ?_)
        · refine lv_iload_n C.1 C.2.1 dL_undone_426 rfl (lv_at hl 7 rfl) ?_
          refine lv_iload C.1 C.2.1 dL_undone_427 (lv_at hl 0 rfl) ?_
          refine lv_if_ge (tgt := 436) C.1 C.2.1 dL_undone_429 (by decide) (fun c_429 => ?_) (fun c_429 => absurd (c_410) c_429)
          refine lv_iconst (v := 1) C.1 C.2.1 dL_undone_436 (by decide) ?_
          refine lv_iadd C.1 C.2.1 dL_undone_437 ?_
          refine r_toe (show _ = nI (n + 1) from nI_1 n) ?_
          refine lv_istore_n (lv' := [(3, .int (nI (n + 1))), (10, .int v408), (9, .int (nI (a59 % 52))), (8, .int (nI (18 + (a48 % 14)))), (7, .int (nI (a33 % 7))), (6, .int (nI a33)), (5, .int (nI a27)), (4, .int (nI i)), (2, .ref q2), (1, .ref (K 7 0)), (0, .ref b)]) C.1 C.2.1 dL_undone_438 rfl hl (by decide) rfl (fun ls hl => ?_)
          refine lv_iinc (v := nI (i + 1)) (lv' := [(4, .int (nI (i + 1))), (3, .int (nI (n + 1))), (10, .int v408), (9, .int (nI (a59 % 52))), (8, .int (nI (18 + (a48 % 14)))), (7, .int (nI (a33 % 7))), (6, .int (nI a33)), (5, .int (nI a27)), (2, .ref q2), (1, .ref (K 7 0)), (0, .ref b)]) C.1 C.2.1 dL_undone_439 hl (k := 7) rfl (nI_add i 1) (by decide) rfl (fun ls hl => ?_)
          refine lv_goto (tgt := 10) C.1 C.2.1 dL_undone_442 (by decide) ?_
          exact W.widen (k := 10 + 900 * (i + 1)) (n := 60 + 10000 * (i + 1)) (by omega) (by omega) (ih10 ⟨(i + 1), (n + 1), E408, (vp_updL f n (lsS D.S)), (fun j => if j = n then D.S else g j)⟩ (⟨by omega, by omega, by omega, ⟨U9, by rw [show (2000 + 2600 * ((i + 1 : Nat) : Int)) = 2000 + 2600 * ((i : Int) + 1) by omega]; exact h9⟩, (hs_step hs (by omega) hnw hv408).2 c_410, (up_sums hf).1⟩) _ _ hw _ (lv_sub hl [0, 1, 8, 9, 10] rfl))
        · refine lv_aload_n C.1 C.2.1 dL_undone_413 rfl (lv_at hl 9 rfl) ?_
          refine r_sl C hw (k_sum hF h9 (by omega) (K := K) (r := r) (X := ((q2, .inl (G.2.2.1 4, 9, .inr (.inl (vp_updL f n (lsS D.S))))) :: X))) ml_L_355 yf_L_sum (As := [.ref (K 7 0)]) rfl rfl ⟨(Nat.le_of_ble_eq_true rfl), (Nat.le_of_ble_eq_true rfl)⟩ ⟨by show _ ≤ 12000; omega, by show _ ≤ 100000; omega⟩ hl.1 (Nat.le_of_ble_eq_true rfl) dL_undone_414 (fun r_414 _ H locs hp_414 hw => ?_)
          obtain rfl : r_414 = lsS E408.S := hp_414
          replace hw : WH G s (cW G K r E408 ((q2, .inl (G.2.2.1 4, 9, .inr (.inl (vp_updL f n (lsS D.S))))) :: X)) H locs := hw
          refine lv_aload_n C.1 C.2.1 dL_undone_417 rfl (lv_at hl 8 rfl) ?_
          refine lv_iload_n C.1 C.2.1 dL_undone_418 rfl (lv_at hl 7 rfl) ?_
          refine lx_lald C hw (i := n) (by omega) (by omega) dL_undone_419 ?_
          refine W.lcmp C.1 C.2.1 dL_undone_420 ?_
          rw [show lg_cmp (lsS E408.S) ((vp_updL f n (lsS D.S)) n) = 0 from by rw [show (lsS E408.S) = ((vp_updL f n (lsS D.S)) n) from by rw [show E408.S = D.S from ((hs_step hs (by omega) hnw hv408).1 c_410).1]; exact (if_pos rfl).symm]; exact lg_same _]
          show W p l e _ s m _ below meth c0 H locs (10 + 900 * i + 300 + 250 + 300) (60 + 10000 * i + 1700 + 6000 + 1700) _ (F0 m 421 ls [.int 0])
          refine lv_if_eq (tgt := 426) C.1 C.2.1 dL_undone_421 (by decide) (fun c_421 => ?_) (fun c_421 => absurd (rfl) c_421)
          refine lv_iload_n C.1 C.2.1 dL_undone_426 rfl (lv_at hl 7 rfl) ?_
          refine lv_iload C.1 C.2.1 dL_undone_427 (lv_at hl 0 rfl) ?_
          refine lv_if_ge (tgt := 436) C.1 C.2.1 dL_undone_429 (by decide) (fun c_429 => absurd c_429 (c_410)) (fun c_429 => ?_)
          refine lv_iconst (v := 0) C.1 C.2.1 dL_undone_432 (by decide) ?_
          refine lv_goto (tgt := 437) C.1 C.2.1 dL_undone_433 (by decide) ?_
          refine lv_iadd C.1 C.2.1 dL_undone_437 ?_
          refine r_toe (show _ = nI n from Int32.add_zero _) ?_
          refine lv_istore_n (lv' := [(3, .int (nI n)), (10, .int v408), (9, .int (nI (a59 % 52))), (8, .int (nI (18 + (a48 % 14)))), (7, .int (nI (a33 % 7))), (6, .int (nI a33)), (5, .int (nI a27)), (4, .int (nI i)), (2, .ref q2), (1, .ref (K 7 0)), (0, .ref b)]) C.1 C.2.1 dL_undone_438 rfl hl (by decide) rfl (fun ls hl => ?_)
          refine lv_iinc (v := nI (i + 1)) (lv' := [(4, .int (nI (i + 1))), (3, .int (nI n)), (10, .int v408), (9, .int (nI (a59 % 52))), (8, .int (nI (18 + (a48 % 14)))), (7, .int (nI (a33 % 7))), (6, .int (nI a33)), (5, .int (nI a27)), (2, .ref q2), (1, .ref (K 7 0)), (0, .ref b)]) C.1 C.2.1 dL_undone_439 hl (k := 7) rfl (nI_add i 1) (by decide) rfl (fun ls hl => ?_)
          refine lv_goto (tgt := 10) C.1 C.2.1 dL_undone_442 (by decide) ?_
          exact W.widen (k := 10 + 900 * (i + 1)) (n := 60 + 10000 * (i + 1)) (by omega) (by omega) (ih10 ⟨(i + 1), n, E408, (vp_updL f n (lsS D.S)), g⟩ (⟨by omega, by omega, by omega, ⟨U9, by rw [show (2000 + 2600 * ((i + 1 : Nat) : Int)) = 2000 + 2600 * ((i : Int) + 1) by omega]; exact h9⟩, ((hs_step hs (by omega) hnw hv408).1 c_410).2, (up_sums hf).2⟩) _ _ hw _ (lv_sub hl [0, 1, 8, 9, 10] rfl))
  · rintro ⟨i, n, D, f, g⟩ ⟨hi8, hi9, -⟩; omega

