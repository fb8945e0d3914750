/-! The model: minutes, a new order, the pool's end -/
set_option maxHeartbeats 4000000 in
set_option maxRecDepth 100000 in
theorem k12_doPass {l : Launch} {G : Gx} (hF : SF l G) {mo : Nat → Nat} {U : MV_} {X : va_W} (hok : okF (U.2 0)) (x : Int32) : MI l G yX12_doPass cX12_doPass 6 .int 2 0 0 [.ref (mo 0), .int x] (moW G mo U ++ X) (fun r _ => r = (psM U x).2) (fun _ : Unit => moW G mo (psM U x).1 ++ X) := by
  refine mt_of hF (by decide) (Nat.le_of_ble_eq_true rfl) ?_
  intro p e s m below meth c C hin ls hl H locs hw
  have hl : lv_has ls 6 [(0, .ref (mo 0)), (1, .int x)] := hl
  refine lv_iload_n C.1 C.2.1 dX12_doPass_0 rfl (lv_at hl 1 rfl) ?_
  refine lv_iconst (v := 1) C.1 C.2.1 dX12_doPass_1 (by decide) ?_
  refine lv_bipush (v := 60) C.1 C.2.1 dX12_doPass_2 (by decide) ?_
  refine r_si C hw (k12_in hF (X := moW G mo U ++ X) x 1 60) ml_X12_51 yf_X12_in (As := [.int x, .int 1, .int 60]) rfl rfl ⟨Nat.le_of_ble_eq_true rfl, Nat.le_of_ble_eq_true rfl⟩ ⟨Nat.le_of_ble_eq_true rfl, Nat.le_of_ble_eq_true rfl⟩ hl.1 (Nat.le_of_ble_eq_true rfl) dX12_doPass_4 (fun r_4 _ H locs hp_4 hw => ?_)
  obtain rfl : r_4 = bI (inR x 1 60) := hp_4
  replace hw : WH G s (moW G mo U ++ X) H locs := hw
  refine lv_if_ne (tgt := 16) C.1 C.2.1 dX12_doPass_7 (by decide) (fun c_7 => ?_) (fun c_7 => ?_)
  · have b_7 := bI_ne0.mp c_7
    obtain ⟨m1, rfl, hm1, hm2⟩ := inR_t (lo := 1) (hi := 60) (by omega) b_7 (by omega)
    replace hl : lv_has ls 6 [(0, .ref (mo 0)), (1, .int (nI m1))] := hl
    refine lv_iconst (v := 0) C.1 C.2.1 dX12_doPass_16 (by decide) ?_
    refine lv_istore_n (lv' := [(2, .int 0), (0, .ref (mo 0)), (1, .int (nI m1))]) C.1 C.2.1 dX12_doPass_17 rfl hl (by decide) rfl (fun ls hl => ?_)
    refine lv_iconst (v := 0) C.1 C.2.1 dX12_doPass_18 (by decide) ?_
    refine lv_istore_n (lv' := [(3, .int 0), (2, .int 0), (0, .ref (mo 0)), (1, .int (nI m1))]) C.1 C.2.1 dX12_doPass_19 rfl hl (by decide) rfl (fun ls hl => ?_)
    refine w_loop (σ := Nat × (Nat → Int32) × Int32) G (fun u ⟨k, f, y⟩ => k ≤ m1 ∧ m1 < k + u ∧ (f, y) = psO (U.2 0) k ∧ okF f) (fun ⟨k, f, y⟩ => moW G mo (mR U 0 f) ++ X) (fun ⟨k, f, y⟩ => 0) (fun ⟨k, f, y⟩ => 0) (fun ⟨k, f, y⟩ => [(0, .ref (mo 0)), (1, .int (nI m1)), (2, .int y), (3, .int (nI k))]) 6 ?_ ?_ (m1 + 1) (0, U.2 0, 0) (⟨Nat.zero_le _, by omega, rfl, hok⟩) hw (lv_sub hl [2, 3, 1, 0] rfl)
    · rintro n20 ⟨k, f, y⟩ ⟨h1, h2, h3, h4⟩ ih20 H locs hw ls hl
      replace hw : WH G s (moW G mo (mR U 0 f) ++ X) H locs := hw
      replace hl : lv_has ls 6 [(0, .ref (mo 0)), (1, .int (nI m1)), (2, .int y), (3, .int (nI k))] := hl
      have hn20 := h4.2.1
      refine lv_iload_n C.1 C.2.1 dX12_doPass_20 rfl (lv_at hl 3 rfl) ?_
      refine lv_iload_n C.1 C.2.1 dX12_doPass_21 rfl (lv_at hl 1 rfl) ?_
      refine lv_icmp_ge (tgt := 148) C.1 C.2.1 dX12_doPass_22 (by decide) (fun c_22 => ?_) (fun c_22 => ?_)
      · obtain rfl := le_T h1 (by omega) c_22
        refine lv_iload_n C.1 C.2.1 dX12_doPass_148 rfl (lv_at hl 2 rfl) ?_
        exact r_iret C hw rfl rfl () (by rw [psM, if_neg (by rw [b_7]; decide), nI_clamp (by omega), ← h3]) (by rw [psM, if_neg (by rw [b_7]; decide), nI_clamp (by omega), ← h3]) (Nat.le_of_ble_eq_true rfl) (Nat.le_of_ble_eq_true rfl) dX12_doPass_149
      · have hk := le_F h1 (by omega) c_22
        refine lv_aload_n C.1 C.2.1 dX12_doPass_25 rfl (lv_at hl 0 rfl) ?_
        refine r_get C hw 0 rfl rfl in_X12 0 (by decide) fl_X12_9 rfl (v := .ref (mo 1)) rfl dX12_doPass_26 ?_
        refine lv_iconst (v := 3) C.1 C.2.1 dX12_doPass_29 (by decide) ?_
        refine lv_dup2_11 C.1 C.2.1 dX12_doPass_30 rfl rfl ?_
        refine r_iald C hw 1 rfl (vp_in_nI (n := 3) (by omega) (by decide)) dX12_doPass_31 ?_
        refine r_toe (show _ = f 3 from congrArg f (nI_clamp (n := 3) (by omega))) ?_
        refine lv_iconst (v := 1) C.1 C.2.1 dX12_doPass_32 (by decide) ?_
        refine lv_iadd C.1 C.2.1 dX12_doPass_33 ?_
        refine r_iast C hw 1 rfl (vp_in_nI (n := 3) (by omega) (by decide)) (w' := moW G mo (mR (mR U 0 f) 0 (upd f 3 ((f 3) + 1))) ++ X) rfl dX12_doPass_34 (fun H locs hw => ?_)
        replace hw : WH G s (moW G mo (mR U 0 (tmS f)) ++ X) H locs := hw.to (by rw [mR_mR]; rfl)
        refine lv_iconst (v := 0) C.1 C.2.1 dX12_doPass_35 (by decide) ?_
        refine lv_istore (lv' := [(4, .int 0), (0, .ref (mo 0)), (1, .int (nI m1)), (2, .int y), (3, .int (nI k))]) C.1 C.2.1 dX12_doPass_36 hl (by decide) rfl (fun ls hl => ?_)
        refine w_loop (σ := Nat × Nat × (Nat → Int32) × Int32) G (fun u ⟨v, q, g, y1⟩ => v < u ∧ nF g < q + v + 1 ∧ okF g ∧ psI v q g y1 = psG (f, y) ∧ q ≤ nF g) (fun ⟨v, q, g, y1⟩ => moW G mo (mR U 0 g) ++ X) (fun ⟨v, q, g, y1⟩ => 0) (fun ⟨v, q, g, y1⟩ => 0) (fun ⟨v, q, g, y1⟩ => [(0, .ref (mo 0)), (1, .int (nI m1)), (2, .int y1), (3, .int (nI k)), (4, .int (nI q))]) 6 ?_ ?_ 22 (21, 0, tmS f, y) (⟨by omega, by rw [(okF_tm h4).2]; omega, (okF_tm h4).1, rfl, Nat.zero_le _⟩) hw (lv_sub hl [1, 2, 3, 4, 0] rfl)
        · rintro n38 ⟨v, q, g, y1⟩ ⟨j1, j2, j3, j4, j5⟩ ih38 H locs hw ls hl
          replace hw : WH G s (moW G mo (mR U 0 g) ++ X) H locs := hw
          replace hl : lv_has ls 6 [(0, .ref (mo 0)), (1, .int (nI m1)), (2, .int y1), (3, .int (nI k)), (4, .int (nI q))] := hl
          have hn20 := j3.2.1
          refine lv_iload C.1 C.2.1 dX12_doPass_38 (lv_at hl 4 rfl) ?_
          refine lv_aload_n C.1 C.2.1 dX12_doPass_40 rfl (lv_at hl 0 rfl) ?_
          refine r_get C hw 0 rfl rfl in_X12 0 (by decide) fl_X12_9 rfl (v := .ref (mo 1)) rfl dX12_doPass_41 ?_
          refine lv_iconst (v := 1) C.1 C.2.1 dX12_doPass_44 (by decide) ?_
          refine r_iald C hw 1 rfl (vp_in_nI (n := 1) (by omega) (by decide)) dX12_doPass_45 ?_
          refine r_toe (show _ = g 1 from congrArg g (nI_clamp (n := 1) (by omega))) ?_
          refine r_toe (show _ = nI (nF g) from j3.1) ?_
          refine lv_icmp_ge (tgt := 142) C.1 C.2.1 dX12_doPass_46 (by decide) (fun c_46 => ?_) (fun c_46 => ?_)
          · have hq : nF g ≤ q := by rw [nI_leI (by omega) (by omega)] at c_46; exact c_46
            rw [psI_z hq] at j4
            refine lv_iinc (v := nI (k + 1)) (lv' := [(3, .int (nI (k + 1))), (0, .ref (mo 0)), (1, .int (nI m1)), (2, .int y1), (4, .int (nI q))]) C.1 C.2.1 dX12_doPass_142 hl (k := 3) rfl (inc_nI k) (by decide) rfl (fun ls hl => ?_)
            refine lv_goto (tgt := 20) C.1 C.2.1 dX12_doPass_145 (by decide) ?_
            exact ih20 (k + 1, g, y1) (⟨by omega, by omega, by rw [ps_s, ← h3]; exact j4, j3⟩) _ _ hw _ (lv_sub hl [1, 2, 3, 0] rfl)
          · have hq : q < nF g := by rw [nI_leI (by omega) (by omega)] at c_46; omega
            refine lv_aload_n C.1 C.2.1 dX12_doPass_49 rfl (lv_at hl 0 rfl) ?_
            refine lv_iload C.1 C.2.1 dX12_doPass_50 (lv_at hl 4 rfl) ?_
            refine lv_iconst (v := 5) C.1 C.2.1 dX12_doPass_52 (by decide) ?_
            refine r_vi C hw (k12_of hF (mo := mo) (U := (mR U 0 g)) (X := X) (i := q) (k := 5) (by omega) (by omega)) ml_X12_55 yf_X12_of 0 rfl rfl (As := [.int (nI q), .int 5]) rfl rfl ⟨Nat.le_of_ble_eq_true rfl, Nat.le_of_ble_eq_true rfl⟩ ⟨Nat.le_of_ble_eq_true rfl, Nat.le_of_ble_eq_true rfl⟩ hl.1 (Nat.le_of_ble_eq_true rfl) dX12_doPass_53 (fun r_53 _ H locs hp_53 hw => ?_)
            obtain rfl : r_53 = oF g q 5 := hp_53
            replace hw : WH G s (moW G mo (mR U 0 g) ++ X) H locs := hw
            refine lv_iconst (v := 1) C.1 C.2.1 dX12_doPass_56 (by decide) ?_
            refine lv_icmp_ne (tgt := 64) C.1 C.2.1 dX12_doPass_57 (by decide) (fun c_57 => ?_) (fun c_57 => ?_)
            · refine lv_iconst (v := 0) C.1 C.2.1 dX12_doPass_64 (by decide) ?_
              refine lv_istore (lv' := [(5, .int 0), (0, .ref (mo 0)), (1, .int (nI m1)), (2, .int y1), (3, .int (nI k)), (4, .int (nI q))]) C.1 C.2.1 dX12_doPass_65 hl (by decide) rfl (fun ls hl => ?_)
              refine lv_aload_n C.1 C.2.1 dX12_doPass_67 rfl (lv_at hl 1 rfl) ?_
              refine r_get C hw 0 rfl rfl in_X12 0 (by decide) fl_X12_9 rfl (v := .ref (mo 1)) rfl dX12_doPass_68 ?_
              refine lv_bipush (v := 21) C.1 C.2.1 dX12_doPass_71 (by decide) ?_
              refine lv_bipush (v := 6) C.1 C.2.1 dX12_doPass_73 (by decide) ?_
              refine lv_iload C.1 C.2.1 dX12_doPass_75 (lv_at hl 5 rfl) ?_
              refine lv_imul C.1 C.2.1 dX12_doPass_77 ?_
              refine r_toe (pk_mul 6 q) ?_
              refine lv_iadd C.1 C.2.1 dX12_doPass_78 ?_
              refine r_toe (nI_add 21 (6 * q)) ?_
              refine lv_iconst (v := 5) C.1 C.2.1 dX12_doPass_79 (by decide) ?_
              refine lv_iadd C.1 C.2.1 dX12_doPass_80 ?_
              refine r_toe (nI_add (21 + (6 * q)) 5) ?_
              refine lv_dup2_11 C.1 C.2.1 dX12_doPass_81 rfl rfl ?_
              refine r_iald C hw 1 rfl (vp_in_nI (n := ((21 + (6 * q)) + 5)) (by omega) (by decide)) dX12_doPass_82 ?_
              refine r_toe (show _ = g ((21 + (6 * q)) + 5) from congrArg g (nI_clamp (n := ((21 + (6 * q)) + 5)) (by omega))) ?_
              refine lv_aload_n C.1 C.2.1 dX12_doPass_83 rfl (lv_at hl 1 rfl) ?_
              refine lv_iload C.1 C.2.1 dX12_doPass_84 (lv_at hl 5 rfl) ?_
              refine lv_iconst (v := 5) C.1 C.2.1 dX12_doPass_86 (by decide) ?_
              refine r_vi C hw (k12_of hF (mo := mo) (U := (mR U 0 g)) (X := X) (i := q) (k := 5) (by omega) (by omega)) ml_X12_55 yf_X12_of 0 rfl rfl (As := [.int (nI q), .int 5]) rfl rfl ⟨Nat.le_of_ble_eq_true rfl, Nat.le_of_ble_eq_true rfl⟩ ⟨Nat.le_of_ble_eq_true rfl, Nat.le_of_ble_eq_true rfl⟩ hl.1 (Nat.le_of_ble_eq_true rfl) dX12_doPass_87 (fun r_87 _ H locs hp_87 hw => ?_)
              obtain rfl : r_87 = oF g q 5 := hp_87
              replace hw : WH G s (moW G mo (mR U 0 g) ++ X) H locs := hw
              refine lv_if_le (tgt := 97) C.1 C.2.1 dX12_doPass_90 (by decide) (fun c_90 => ?_) (fun c_90 => ?_)
              · refine lv_iconst (v := 0) C.1 C.2.1 dX12_doPass_97 (by decide) ?_
                refine lv_isub C.1 C.2.1 dX12_doPass_98 ?_
                refine r_iast C hw 1 rfl (vp_in_nI (n := ((21 + (6 * q)) + 5)) (by omega) (by decide)) (w' := moW G mo (mR (mR U 0 g) 0 (upd g ((21 + (6 * q)) + 5) ((g ((21 + (6 * q)) + 5)) - 0))) ++ X) (by rw [show (nI ((21 + (6 * q)) + 5)).toNatClampNeg = ((21 + (6 * q)) + 5) from nI_clamp (by omega)]; rfl) dX12_doPass_99 (fun H locs hw => ?_)
                replace hw : WH G s (moW G mo (mR U 0 (psS g q)) ++ X) H locs := hw.to (by rw [mR_mR]; exact congrArg (fun z => moW G mo (mR U 0 z) ++ X) (by unfold psS; rw [if_pos c_90]))
                refine lv_iload C.1 C.2.1 dX12_doPass_100 (lv_at hl 0 rfl) ?_
                refine lv_if_eq (tgt := 111) C.1 C.2.1 dX12_doPass_102 (by decide) (fun c_102 => ?_) (fun c_102 => absurd (by decide) c_102)
                refine lv_iload_n C.1 C.2.1 dX12_doPass_111 rfl (lv_at hl 3 rfl) ?_
                refine lv_iload C.1 C.2.1 dX12_doPass_112 (lv_at hl 0 rfl) ?_
                refine lv_if_eq (tgt := 121) C.1 C.2.1 dX12_doPass_114 (by decide) (fun c_114 => ?_) (fun c_114 => absurd (by decide) c_114)
                refine lv_iconst (v := 0) C.1 C.2.1 dX12_doPass_121 (by decide) ?_
                refine lv_iadd C.1 C.2.1 dX12_doPass_122 ?_
                refine lv_istore_n (lv' := [(2, .int (y1 + 0)), (5, .int 0), (0, .ref (mo 0)), (1, .int (nI m1)), (3, .int (nI k)), (4, .int (nI q))]) C.1 C.2.1 dX12_doPass_123 rfl hl (by decide) rfl (fun ls hl => ?_)
                refine lv_iload C.1 C.2.1 dX12_doPass_124 (lv_at hl 5 rfl) ?_
                refine lv_iload C.1 C.2.1 dX12_doPass_126 (lv_at hl 1 rfl) ?_
                refine lv_if_eq (tgt := 135) C.1 C.2.1 dX12_doPass_128 (by decide) (fun c_128 => ?_) (fun c_128 => absurd (by decide) c_128)
                refine lv_iconst (v := 1) C.1 C.2.1 dX12_doPass_135 (by decide) ?_
                refine lv_iadd C.1 C.2.1 dX12_doPass_136 ?_
                refine r_toe (nI_add q 1) ?_
                refine lv_istore (lv' := [(4, .int (nI (q + 1))), (2, .int (y1 + 0)), (5, .int 0), (0, .ref (mo 0)), (1, .int (nI m1)), (3, .int (nI k))]) C.1 C.2.1 dX12_doPass_137 hl (by decide) rfl (fun ls hl => ?_)
                refine lv_goto (tgt := 38) C.1 C.2.1 dX12_doPass_139 (by decide) ?_
                exact ih38 (v - 1, q + 1, psS g q, (y1 + 0)) (⟨by omega, by rw [(okF_ps j3 q).2]; omega, (okF_ps j3 q).1, (psI_f hq (by omega) c_57).symm.trans j4, by rw [(okF_ps j3 q).2]; omega⟩) _ _ hw _ (lv_sub hl [3, 4, 1, 5, 0] rfl)
              · refine lv_iconst (v := 1) C.1 C.2.1 dX12_doPass_93 (by decide) ?_
                refine lv_goto (tgt := 98) C.1 C.2.1 dX12_doPass_94 (by decide) ?_
                refine lv_isub C.1 C.2.1 dX12_doPass_98 ?_
                refine r_iast C hw 1 rfl (vp_in_nI (n := ((21 + (6 * q)) + 5)) (by omega) (by decide)) (w' := moW G mo (mR (mR U 0 g) 0 (upd g ((21 + (6 * q)) + 5) ((g ((21 + (6 * q)) + 5)) - 1))) ++ X) (by rw [show (nI ((21 + (6 * q)) + 5)).toNatClampNeg = ((21 + (6 * q)) + 5) from nI_clamp (by omega)]; rfl) dX12_doPass_99 (fun H locs hw => ?_)
                replace hw : WH G s (moW G mo (mR U 0 (psS g q)) ++ X) H locs := hw.to (by rw [mR_mR]; exact congrArg (fun z => moW G mo (mR U 0 z) ++ X) (by unfold psS; rw [if_neg c_90]))
                refine lv_iload C.1 C.2.1 dX12_doPass_100 (lv_at hl 0 rfl) ?_
                refine lv_if_eq (tgt := 111) C.1 C.2.1 dX12_doPass_102 (by decide) (fun c_102 => ?_) (fun c_102 => absurd (by decide) c_102)
                refine lv_iload_n C.1 C.2.1 dX12_doPass_111 rfl (lv_at hl 3 rfl) ?_
                refine lv_iload C.1 C.2.1 dX12_doPass_112 (lv_at hl 0 rfl) ?_
                refine lv_if_eq (tgt := 121) C.1 C.2.1 dX12_doPass_114 (by decide) (fun c_114 => ?_) (fun c_114 => absurd (by decide) c_114)
                refine lv_iconst (v := 0) C.1 C.2.1 dX12_doPass_121 (by decide) ?_
                refine lv_iadd C.1 C.2.1 dX12_doPass_122 ?_
                refine lv_istore_n (lv' := [(2, .int (y1 + 0)), (5, .int 0), (0, .ref (mo 0)), (1, .int (nI m1)), (3, .int (nI k)), (4, .int (nI q))]) C.1 C.2.1 dX12_doPass_123 rfl hl (by decide) rfl (fun ls hl => ?_)
                refine lv_iload C.1 C.2.1 dX12_doPass_124 (lv_at hl 5 rfl) ?_
                refine lv_iload C.1 C.2.1 dX12_doPass_126 (lv_at hl 1 rfl) ?_
                refine lv_if_eq (tgt := 135) C.1 C.2.1 dX12_doPass_128 (by decide) (fun c_128 => ?_) (fun c_128 => absurd (by decide) c_128)
                refine lv_iconst (v := 1) C.1 C.2.1 dX12_doPass_135 (by decide) ?_
                refine lv_iadd C.1 C.2.1 dX12_doPass_136 ?_
                refine r_toe (nI_add q 1) ?_
                refine lv_istore (lv' := [(4, .int (nI (q + 1))), (2, .int (y1 + 0)), (5, .int 0), (0, .ref (mo 0)), (1, .int (nI m1)), (3, .int (nI k))]) C.1 C.2.1 dX12_doPass_137 hl (by decide) rfl (fun ls hl => ?_)
                refine lv_goto (tgt := 38) C.1 C.2.1 dX12_doPass_139 (by decide) ?_
                exact ih38 (v - 1, q + 1, psS g q, (y1 + 0)) (⟨by omega, by rw [(okF_ps j3 q).2]; omega, (okF_ps j3 q).1, (psI_f hq (by omega) c_57).symm.trans j4, by rw [(okF_ps j3 q).2]; omega⟩) _ _ hw _ (lv_sub hl [3, 4, 1, 5, 0] rfl)
            · refine lv_iconst (v := 1) C.1 C.2.1 dX12_doPass_60 (by decide) ?_
              refine lv_goto (tgt := 65) C.1 C.2.1 dX12_doPass_61 (by decide) ?_
              refine lv_istore (lv' := [(5, .int 1), (0, .ref (mo 0)), (1, .int (nI m1)), (2, .int y1), (3, .int (nI k)), (4, .int (nI q))]) C.1 C.2.1 dX12_doPass_65 hl (by decide) rfl (fun ls hl => ?_)
              refine lv_aload_n C.1 C.2.1 dX12_doPass_67 rfl (lv_at hl 1 rfl) ?_
              refine r_get C hw 0 rfl rfl in_X12 0 (by decide) fl_X12_9 rfl (v := .ref (mo 1)) rfl dX12_doPass_68 ?_
              refine lv_bipush (v := 21) C.1 C.2.1 dX12_doPass_71 (by decide) ?_
              refine lv_bipush (v := 6) C.1 C.2.1 dX12_doPass_73 (by decide) ?_
              refine lv_iload C.1 C.2.1 dX12_doPass_75 (lv_at hl 5 rfl) ?_
              refine lv_imul C.1 C.2.1 dX12_doPass_77 ?_
              refine r_toe (pk_mul 6 q) ?_
              refine lv_iadd C.1 C.2.1 dX12_doPass_78 ?_
              refine r_toe (nI_add 21 (6 * q)) ?_
              refine lv_iconst (v := 5) C.1 C.2.1 dX12_doPass_79 (by decide) ?_
              refine lv_iadd C.1 C.2.1 dX12_doPass_80 ?_
              refine r_toe (nI_add (21 + (6 * q)) 5) ?_
              refine lv_dup2_11 C.1 C.2.1 dX12_doPass_81 rfl rfl ?_
              refine r_iald C hw 1 rfl (vp_in_nI (n := ((21 + (6 * q)) + 5)) (by omega) (by decide)) dX12_doPass_82 ?_
              refine r_toe (show _ = g ((21 + (6 * q)) + 5) from congrArg g (nI_clamp (n := ((21 + (6 * q)) + 5)) (by omega))) ?_
              refine lv_aload_n C.1 C.2.1 dX12_doPass_83 rfl (lv_at hl 1 rfl) ?_
              refine lv_iload C.1 C.2.1 dX12_doPass_84 (lv_at hl 5 rfl) ?_
              refine lv_iconst (v := 5) C.1 C.2.1 dX12_doPass_86 (by decide) ?_
              refine r_vi C hw (k12_of hF (mo := mo) (U := (mR U 0 g)) (X := X) (i := q) (k := 5) (by omega) (by omega)) ml_X12_55 yf_X12_of 0 rfl rfl (As := [.int (nI q), .int 5]) rfl rfl ⟨Nat.le_of_ble_eq_true rfl, Nat.le_of_ble_eq_true rfl⟩ ⟨Nat.le_of_ble_eq_true rfl, Nat.le_of_ble_eq_true rfl⟩ hl.1 (Nat.le_of_ble_eq_true rfl) dX12_doPass_87 (fun r_87 _ H locs hp_87 hw => ?_)
              obtain rfl : r_87 = oF g q 5 := hp_87
              replace hw : WH G s (moW G mo (mR U 0 g) ++ X) H locs := hw
              refine lv_if_le (tgt := 97) C.1 C.2.1 dX12_doPass_90 (by decide) (fun c_90 => ?_) (fun c_90 => ?_)
              · refine lv_iconst (v := 0) C.1 C.2.1 dX12_doPass_97 (by decide) ?_
                refine lv_isub C.1 C.2.1 dX12_doPass_98 ?_
                refine r_iast C hw 1 rfl (vp_in_nI (n := ((21 + (6 * q)) + 5)) (by omega) (by decide)) (w' := moW G mo (mR (mR U 0 g) 0 (upd g ((21 + (6 * q)) + 5) ((g ((21 + (6 * q)) + 5)) - 0))) ++ X) (by rw [show (nI ((21 + (6 * q)) + 5)).toNatClampNeg = ((21 + (6 * q)) + 5) from nI_clamp (by omega)]; rfl) dX12_doPass_99 (fun H locs hw => ?_)
                replace hw : WH G s (moW G mo (mR U 0 (psS g q)) ++ X) H locs := hw.to (by rw [mR_mR]; exact congrArg (fun z => moW G mo (mR U 0 z) ++ X) (by unfold psS; rw [if_pos c_90]))
                refine lv_iload C.1 C.2.1 dX12_doPass_100 (lv_at hl 0 rfl) ?_
                refine lv_if_eq (tgt := 111) C.1 C.2.1 dX12_doPass_102 (by decide) (fun c_102 => absurd c_102 (by decide)) (fun c_102 => ?_)
                refine lv_aload_n C.1 C.2.1 dX12_doPass_105 rfl (lv_at hl 1 rfl) ?_
                refine lv_iload C.1 C.2.1 dX12_doPass_106 (lv_at hl 5 rfl) ?_
                refine r_vv C hw (k12_drops hF (mo := mo) (U := (mR U 0 (psS g q))) (X := X) (n := (nF g)) (show ((psS g q)) 1 = nI (nF g) from (pk_un (by omega)).trans j3.1) j3.2.1 (q := q) hq) ml_X12_66 yf_X12_drops 0 rfl rfl (As := [.int (nI q)]) rfl rfl ⟨Nat.le_of_ble_eq_true rfl, Nat.le_of_ble_eq_true rfl⟩ ⟨Nat.le_of_ble_eq_true rfl, Nat.le_of_ble_eq_true rfl⟩ hl.1 (Nat.le_of_ble_eq_true rfl) dX12_doPass_108 (fun _ H locs hp_108 hw => ?_)
                replace hw : WH G s (moW G mo (mR (mR U 0 (psS g q)) 0 (drF (psS g q) (nF g) q)) ++ X) H locs := hw
                replace hw : WH G s (moW G mo (mR U 0 (drF (psS g q) (nF g) q)) ++ X) H locs := hw.to (by rw [mR_mR])
                refine lv_iload_n C.1 C.2.1 dX12_doPass_111 rfl (lv_at hl 3 rfl) ?_
                refine lv_iload C.1 C.2.1 dX12_doPass_112 (lv_at hl 0 rfl) ?_
                refine lv_if_eq (tgt := 121) C.1 C.2.1 dX12_doPass_114 (by decide) (fun c_114 => absurd c_114 (by decide)) (fun c_114 => ?_)
                refine lv_iconst (v := 1) C.1 C.2.1 dX12_doPass_117 (by decide) ?_
                refine lv_goto (tgt := 122) C.1 C.2.1 dX12_doPass_118 (by decide) ?_
                refine lv_iadd C.1 C.2.1 dX12_doPass_122 ?_
                refine lv_istore_n (lv' := [(2, .int (y1 + 1)), (5, .int 1), (0, .ref (mo 0)), (1, .int (nI m1)), (3, .int (nI k)), (4, .int (nI q))]) C.1 C.2.1 dX12_doPass_123 rfl hl (by decide) rfl (fun ls hl => ?_)
                refine lv_iload C.1 C.2.1 dX12_doPass_124 (lv_at hl 5 rfl) ?_
                refine lv_iload C.1 C.2.1 dX12_doPass_126 (lv_at hl 1 rfl) ?_
                refine lv_if_eq (tgt := 135) C.1 C.2.1 dX12_doPass_128 (by decide) (fun c_128 => absurd c_128 (by decide)) (fun c_128 => ?_)
                refine lv_iconst (v := 0) C.1 C.2.1 dX12_doPass_131 (by decide) ?_
                refine lv_goto (tgt := 136) C.1 C.2.1 dX12_doPass_132 (by decide) ?_
                refine lv_iadd C.1 C.2.1 dX12_doPass_136 ?_
                refine r_toe (nI_add q 0) ?_
                refine lv_istore (lv' := [(4, .int (nI (q + 0))), (2, .int (y1 + 1)), (5, .int 1), (0, .ref (mo 0)), (1, .int (nI m1)), (3, .int (nI k))]) C.1 C.2.1 dX12_doPass_137 hl (by decide) rfl (fun ls hl => ?_)
                refine lv_goto (tgt := 38) C.1 C.2.1 dX12_doPass_139 (by decide) ?_
                exact ih38 (v - 1, q, drF (psS g q) (nF g) q, (y1 + 1)) (⟨by omega, by rw [(okF_pd j3 hq).2]; omega, (okF_pd j3 hq).1, (psI_t hq (by omega) c_57).symm.trans j4, by rw [(okF_pd j3 hq).2]; omega⟩) _ _ hw _ (lv_sub hl [3, 4, 1, 5, 0] rfl)
              · refine lv_iconst (v := 1) C.1 C.2.1 dX12_doPass_93 (by decide) ?_
                refine lv_goto (tgt := 98) C.1 C.2.1 dX12_doPass_94 (by decide) ?_
                refine lv_isub C.1 C.2.1 dX12_doPass_98 ?_
                refine r_iast C hw 1 rfl (vp_in_nI (n := ((21 + (6 * q)) + 5)) (by omega) (by decide)) (w' := moW G mo (mR (mR U 0 g) 0 (upd g ((21 + (6 * q)) + 5) ((g ((21 + (6 * q)) + 5)) - 1))) ++ X) (by rw [show (nI ((21 + (6 * q)) + 5)).toNatClampNeg = ((21 + (6 * q)) + 5) from nI_clamp (by omega)]; rfl) dX12_doPass_99 (fun H locs hw => ?_)
                replace hw : WH G s (moW G mo (mR U 0 (psS g q)) ++ X) H locs := hw.to (by rw [mR_mR]; exact congrArg (fun z => moW G mo (mR U 0 z) ++ X) (by unfold psS; rw [if_neg c_90]))
                refine lv_iload C.1 C.2.1 dX12_doPass_100 (lv_at hl 0 rfl) ?_
                refine lv_if_eq (tgt := 111) C.1 C.2.1 dX12_doPass_102 (by decide) (fun c_102 => absurd c_102 (by decide)) (fun c_102 => ?_)
                refine lv_aload_n C.1 C.2.1 dX12_doPass_105 rfl (lv_at hl 1 rfl) ?_
                refine lv_iload C.1 C.2.1 dX12_doPass_106 (lv_at hl 5 rfl) ?_
                refine r_vv C hw (k12_drops hF (mo := mo) (U := (mR U 0 (psS g q))) (X := X) (n := (nF g)) (show ((psS g q)) 1 = nI (nF g) from (pk_un (by omega)).trans j3.1) j3.2.1 (q := q) hq) ml_X12_66 yf_X12_drops 0 rfl rfl (As := [.int (nI q)]) rfl rfl ⟨Nat.le_of_ble_eq_true rfl, Nat.le_of_ble_eq_true rfl⟩ ⟨Nat.le_of_ble_eq_true rfl, Nat.le_of_ble_eq_true rfl⟩ hl.1 (Nat.le_of_ble_eq_true rfl) dX12_doPass_108 (fun _ H locs hp_108 hw => ?_)
                replace hw : WH G s (moW G mo (mR (mR U 0 (psS g q)) 0 (drF (psS g q) (nF g) q)) ++ X) H locs := hw
                replace hw : WH G s (moW G mo (mR U 0 (drF (psS g q) (nF g) q)) ++ X) H locs := hw.to (by rw [mR_mR])
                refine lv_iload_n C.1 C.2.1 dX12_doPass_111 rfl (lv_at hl 3 rfl) ?_
                refine lv_iload C.1 C.2.1 dX12_doPass_112 (lv_at hl 0 rfl) ?_
                refine lv_if_eq (tgt := 121) C.1 C.2.1 dX12_doPass_114 (by decide) (fun c_114 => absurd c_114 (by decide)) (fun c_114 => ?_)
                refine lv_iconst (v := 1) C.1 C.2.1 dX12_doPass_117 (by decide) ?_
                refine lv_goto (tgt := 122) C.1 C.2.1 dX12_doPass_118 (by decide) ?_
                refine lv_iadd C.1 C.2.1 dX12_doPass_122 ?_
                refine lv_istore_n (lv' := [(2, .int (y1 + 1)), (5, .int 1), (0, .ref (mo 0)), (1, .int (nI m1)), (3, .int (nI k)), (4, .int (nI q))]) C.1 C.2.1 dX12_doPass_123 rfl hl (by decide) rfl (fun ls hl => ?_)
                refine lv_iload C.1 C.2.1 dX12_doPass_124 (lv_at hl 5 rfl) ?_
                refine lv_iload C.1 C.2.1 dX12_doPass_126 (lv_at hl 1 rfl) ?_
                refine lv_if_eq (tgt := 135) C.1 C.2.1 dX12_doPass_128 (by decide) (fun c_128 => absurd c_128 (by decide)) (fun c_128 => ?_)
                refine lv_iconst (v := 0) C.1 C.2.1 dX12_doPass_131 (by decide) ?_
                refine lv_goto (tgt := 136) C.1 C.2.1 dX12_doPass_132 (by decide) ?_
                refine lv_iadd C.1 C.2.1 dX12_doPass_136 ?_
                refine r_toe (nI_add q 0) ?_
                refine lv_istore (lv' := [(4, .int (nI (q + 0))), (2, .int (y1 + 1)), (5, .int 1), (0, .ref (mo 0)), (1, .int (nI m1)), (3, .int (nI k))]) C.1 C.2.1 dX12_doPass_137 hl (by decide) rfl (fun ls hl => ?_)
                refine lv_goto (tgt := 38) C.1 C.2.1 dX12_doPass_139 (by decide) ?_
                exact ih38 (v - 1, q, drF (psS g q) (nF g) q, (y1 + 1)) (⟨by omega, by rw [(okF_pd j3 hq).2]; omega, (okF_pd j3 hq).1, (psI_t hq (by omega) c_57).symm.trans j4, by rw [(okF_pd j3 hq).2]; omega⟩) _ _ hw _ (lv_sub hl [3, 4, 1, 5, 0] rfl)
        · rintro ⟨v, q, g, y1⟩ ⟨j1, j2, j3, j4, j5⟩; omega
    · rintro ⟨k, f, y⟩ ⟨h1, h2, h3, h4⟩; omega
  · have b_7 := bI_eq0.mp c_7
    refine lv_aload_n C.1 C.2.1 dX12_doPass_10 rfl (lv_at hl 0 rfl) ?_
    refine lv_iconst (v := 1) C.1 C.2.1 dX12_doPass_11 (by decide) ?_
    refine r_vi C hw (k12_fails hF (mo := mo) (U := U) (X := X) 1) ml_X12_90 yf_X12_fails 0 rfl rfl (As := [.int 1]) rfl rfl ⟨Nat.le_of_ble_eq_true rfl, Nat.le_of_ble_eq_true rfl⟩ ⟨Nat.le_of_ble_eq_true rfl, Nat.le_of_ble_eq_true rfl⟩ hl.1 (Nat.le_of_ble_eq_true rfl) dX12_doPass_12 (fun r_12 _ H locs hp_12 hw => ?_)
    obtain rfl : r_12 = 0 := hp_12
    replace hw : WH G s (moW G mo (mI U 2 1) ++ X) H locs := hw
    exact r_iret C hw rfl rfl () (by rw [psM, if_pos b_7]) (by rw [psM, if_pos b_7]) (Nat.le_of_ble_eq_true rfl) (Nat.le_of_ble_eq_true rfl) dX12_doPass_15

