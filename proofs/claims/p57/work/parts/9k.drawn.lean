/-! The law: drawn -/
set_option maxHeartbeats 4000000 in
set_option maxRecDepth 100000 in
theorem k_drawn {l : Launch} {G : Gx} (hF : SF l G) {b L : Nat} {xs : Nat → Int32} (hT : va_T .int b L (fun j => .int (xs j)) (gA G) G.2.1 G.2.1.heap) (hL : L < 2 ^ 31) {X : va_W} : ME l G yL_drawn cL_drawn 11 (.object "DropMarket") 12 360 3100 [.ref b] (X) (fun q9 => q9) (fun v (z : ((Nat → Nat → Nat) × (Nat → Nat → Nat)) × CD) => v = some (z.1.1 7 0) ∧ (∃ U, Sm 1400 z.2 U) ∧ NcS z.2.S) (fun z => cW G z.1.1 z.1.2 z.2 X) := by
  refine mt_of hF (by decide) (Nat.le_of_ble_eq_true rfl) ?_
  intro p e s m below meth c0 C hin ls hl H locs hw
  have hl : lv_has ls 11 [(0, .ref b)] := hl
  refine r_new C hw cl_L_9 isb_X11 ini_X11 (ci := 12) rfl in_X11 tyX11 tyX11_ok (fs := [.null, .null, .null, .null, .null, .null, .null, .int 0, .int 0, .int 0]) (by decide) (w' := fun z => (z, .inr (12, [.null, .null, .null, .null, .null, .null, .null, .int 0, .int 0, .int 0])) :: X) (fun z => List.perm_append_singleton _ _) (Nat.le_of_ble_eq_true rfl) (Nat.le_of_ble_eq_true rfl) dL_drawn_0 (fun q1 H locs hw => ?_)
  refine lv_dup C.1 C.2.1 dL_drawn_3 rfl ?_
  refine r_iv C hw (c11_init hF (X := X) (q := q1)) ml_L_162 yf_X11_init rfl (As := []) rfl rfl ⟨Nat.le_of_ble_eq_true rfl, Nat.le_of_ble_eq_true rfl⟩ ⟨Nat.le_of_ble_eq_true rfl, Nat.le_of_ble_eq_true rfl⟩ hl.1 (Nat.le_of_ble_eq_true rfl) dL_drawn_4 (fun z1 H locs hz hw => ?_)
  obtain ⟨K, r, ut, ul⟩ := z1
  obtain ⟨hq, ht1, ht2⟩ := hz
  have hq : K 7 0 = q1 := hq
  have hw : WH G s (cW G K r (D00 ut ul) X) H locs := hw
  rw [← hq]
  have hz0 := st_ok ht1 ht2
  show W p l e _ s m _ below meth c0 H locs (251) (2410) _ (F0 m 7 ls [.ref (K 7 0)])
  refine lv_astore_n (lv' := [(1, .ref (K 7 0)), (0, .ref b)]) C.1 C.2.1 dL_drawn_7 rfl hl (by decide) rfl (fun ls hl => ?_)
  refine lv_aload_n C.1 C.2.1 dL_drawn_8 rfl (lv_at hl 1 rfl) ?_
  refine lv_iconst (v := 0) C.1 C.2.1 dL_drawn_9 (by decide) ?_
  refine r_si C hw (k_cell hF hT hL ⟨0, by omega, rfl⟩) ml_L_163 yf_L_cell (As := [.ref b, .int (nI 0)]) rfl rfl ⟨(Nat.le_of_ble_eq_true rfl), (Nat.le_of_ble_eq_true rfl)⟩ ⟨by show _ ≤ 360; omega, by show _ ≤ 3100; omega⟩ hl.1 (Nat.le_of_ble_eq_true rfl) dL_drawn_10 (fun r_10 _ H locs _ hw => ?_)
  refine lv_iconst (v := 1) C.1 C.2.1 dL_drawn_13 (by decide) ?_
  refine lx_ush C 1 (by decide) (by decide) (by decide) dL_drawn_14 (fun a14 ha14 => ?_)
  refine lv_istore_n (lv' := [(2, .int (nI a14)), (1, .ref (K 7 0)), (0, .ref b)]) C.1 C.2.1 dL_drawn_15 rfl hl (by decide) rfl (fun ls hl => ?_)
  refine lv_iconst (v := 2) C.1 C.2.1 dL_drawn_16 (by decide) ?_
  refine lv_iload_n C.1 C.2.1 dL_drawn_17 rfl (lv_at hl 0 rfl) ?_
  refine lv_iconst (v := 5) C.1 C.2.1 dL_drawn_18 (by decide) ?_
  refine lx_rem C (a := a14) (d := 5) rfl (by omega) (by omega) (by omega) dL_drawn_19 ?_
  refine lv_iadd C.1 C.2.1 dL_drawn_20 ?_
  refine r_toe (show _ = nI (2 + (a14 % 5)) from nI_add 2 (a14 % 5)) ?_
  refine lv_istore_n (lv' := [(3, .int (nI (2 + (a14 % 5)))), (2, .int (nI a14)), (1, .ref (K 7 0)), (0, .ref b)]) C.1 C.2.1 dL_drawn_21 rfl hl (by decide) rfl (fun ls hl => ?_)
  refine lv_iconst (v := 0) C.1 C.2.1 dL_drawn_22 (by decide) ?_
  refine lv_istore (lv' := [(4, .int 0), (3, .int (nI (2 + (a14 % 5)))), (2, .int (nI a14)), (1, .ref (K 7 0)), (0, .ref b)]) C.1 C.2.1 dL_drawn_23 hl (by decide) rfl (fun ls hl => ?_)
  refine W.widen (k := 252 + 0) (n := 2420 + 6 * 0) (by omega) (by omega) ?_
  refine w_loop (σ := Nat × CD) G (fun u ⟨k, D⟩ => k ≤ 2 + a14 % 5 ∧ k + u = 2 + a14 % 5 + 1 ∧ (∃ U, Sm (60 * (k : Int)) D U) ∧ NcS D.S ∧ D.S.1 0 = nI k) (fun ⟨k, D⟩ => cW G K r D X) (fun ⟨k, D⟩ => 252 + k) (fun ⟨k, D⟩ => 2420 + 6 * k) (fun ⟨k, D⟩ => [(4, .int (nI k)), (3, .int (nI (2 + a14 % 5))), (2, .int (nI a14)), (1, .ref (K 7 0)), (0, .ref b)]) 11 ?_ ?_ (2 + a14 % 5 + 1) ⟨0, (D00 ut ul)⟩ (⟨by omega, by omega, ⟨_, hz0⟩, nc_0, rfl⟩) hw (lv_sub hl [0, 1, 2, 3, 4] rfl)
  · rintro n25 ⟨k, D⟩ ⟨hk8, hk9, ⟨U, h⟩, hn, h0⟩ ih25 H locs hw ls hl
    replace hw : WH G s (cW G K r D X) H locs := hw
    replace hl : lv_has ls 11 [(4, .int (nI k)), (3, .int (nI (2 + a14 % 5))), (2, .int (nI a14)), (1, .ref (K 7 0)), (0, .ref b)] := hl
    show W p l e _ s m _ below meth c0 H locs (252 + k) (2420 + 6 * k) _ (F0 m 25 ls [])
    refine lv_iload C.1 C.2.1 dL_drawn_25 (lv_at hl 0 rfl) ?_
    refine lv_iload_n C.1 C.2.1 dL_drawn_27 rfl (lv_at hl 1 rfl) ?_
    refine lv_icmp_ge (tgt := 98) C.1 C.2.1 dL_drawn_28 (by decide) (fun c_28 => ?_) (fun c_28 => ?_)
    · obtain rfl : k = 2 + a14 % 5 := by rw [nI_leI (by omega) (by omega)] at c_28; omega
      refine lv_iconst (v := 0) C.1 C.2.1 dL_drawn_98 (by decide) ?_
      refine lv_istore (lv' := [(4, .int 0), (3, .int (nI (2 + a14 % 5))), (2, .int (nI a14)), (1, .ref (K 7 0)), (0, .ref b)]) C.1 C.2.1 dL_drawn_99 hl (by decide) rfl (fun ls hl => ?_)
      refine W.widen (k := 262 + 5 * 0) (n := 2470 + 30 * 0) (by omega) (by omega) ?_
      refine w_loop (σ := Nat × CD) G (fun u ⟨k, D⟩ => k ≤ 16 ∧ k + u = 17 ∧ (∃ U, Sm (360 + 60 * (k : Int)) D U) ∧ NcS D.S ∧ D.S.1 0 = nI (2 + a14 % 5)) (fun ⟨k, D⟩ => cW G K r D X) (fun ⟨k, D⟩ => 262 + 5 * k) (fun ⟨k, D⟩ => 2470 + 30 * k) (fun ⟨k, D⟩ => [(4, .int (nI k)), (3, .int (nI (2 + a14 % 5))), (2, .int (nI a14)), (1, .ref (K 7 0)), (0, .ref b)]) 11 ?_ ?_ 17 ⟨0, D⟩ (⟨by omega, by omega, ⟨U, h.mono (by omega) (by omega)⟩, hn, h0⟩) hw (lv_sub hl [0, 1, 2, 3, 4] rfl)
      · rintro n101 ⟨k, D⟩ ⟨hk8, hk9, ⟨U, h⟩, hn, h0⟩ ih101 H locs hw ls hl
        replace hw : WH G s (cW G K r D X) H locs := hw
        replace hl : lv_has ls 11 [(4, .int (nI k)), (3, .int (nI (2 + a14 % 5))), (2, .int (nI a14)), (1, .ref (K 7 0)), (0, .ref b)] := hl
        show W p l e _ s m _ below meth c0 H locs (262 + 5 * k) (2470 + 30 * k) _ (F0 m 101 ls [])
        refine lv_iload C.1 C.2.1 dL_drawn_101 (lv_at hl 0 rfl) ?_
        refine lv_bipush (v := 16) C.1 C.2.1 dL_drawn_103 (by decide) ?_
        refine lv_icmp_ge (tgt := 404) C.1 C.2.1 dL_drawn_105 (by decide) (fun c_105 => ?_) (fun c_105 => ?_)
        · obtain rfl : k = 16 := by rw [show (16 : Int32) = nI 16 from rfl, nI_leI (by omega) (by omega)] at c_105; omega
          refine lv_aload_n C.1 C.2.1 dL_drawn_404 rfl (lv_at hl 3 rfl) ?_
          exact r_eret C hw (v := some (K 7 0)) (ad := fun q9 => q9) rfl (Or.inl ⟨_, rfl⟩) ((K, r), D) ⟨rfl, ⟨U, h.mono (by omega) (by omega)⟩, hn⟩ rfl (by show _ ≤ 360; omega) (by show _ ≤ 3100; omega) dL_drawn_405
        · have hk : k < 16 := by rw [show (16 : Int32) = nI 16 from rfl, nI_leI (by omega) (by omega)] at c_105; omega
          have hT0 : nT D.S = 2 + a14 % 5 := nT_of h0 (by omega)
          refine lv_aload_n C.1 C.2.1 dL_drawn_108 rfl (lv_at hl 4 rfl) ?_
          refine lv_bipush (v := 7) C.1 C.2.1 dL_drawn_109 (by decide) ?_
          refine lv_iload C.1 C.2.1 dL_drawn_111 (lv_at hl 0 rfl) ?_
          refine lv_iadd C.1 C.2.1 dL_drawn_113 ?_
          refine r_toe (show _ = nI (7 + k) from nI_add 7 k) ?_
          refine r_si C hw (k_cell hF hT hL ⟨(7 + k), by omega, rfl⟩) ml_L_163 yf_L_cell (As := [.ref b, .int (nI (7 + k))]) rfl rfl ⟨(Nat.le_of_ble_eq_true rfl), (Nat.le_of_ble_eq_true rfl)⟩ ⟨by show _ ≤ 360; omega, by show _ ≤ 3100; omega⟩ hl.1 (Nat.le_of_ble_eq_true rfl) dL_drawn_114 (fun r_114 _ H locs _ hw => ?_)
          refine lv_iconst (v := 1) C.1 C.2.1 dL_drawn_117 (by decide) ?_
          refine lx_ush C 1 (by decide) (by decide) (by decide) dL_drawn_118 (fun a118 ha118 => ?_)
          refine lv_istore (lv' := [(5, .int (nI a118)), (4, .int (nI k)), (3, .int (nI (2 + a14 % 5))), (2, .int (nI a14)), (1, .ref (K 7 0)), (0, .ref b)]) C.1 C.2.1 dL_drawn_119 hl (by decide) rfl (fun ls hl => ?_)
          refine lv_iload C.1 C.2.1 dL_drawn_121 (lv_at hl 0 rfl) ?_
          refine lv_iconst (v := 4) C.1 C.2.1 dL_drawn_123 (by decide) ?_
          refine lx_ush C 4 (by decide) (by decide) (by decide) dL_drawn_124 (fun a124 ha124 => ?_)
          refine lv_iload_n C.1 C.2.1 dL_drawn_125 rfl (lv_at hl 2 rfl) ?_
          refine lx_rem C (a := a124) (d := (2 + a14 % 5)) rfl (by omega) (by omega) (by omega) dL_drawn_126 ?_
          have hm_126 : a124 % (2 + a14 % 5) < (2 + a14 % 5) := Nat.mod_lt _ (by omega)
          refine lv_istore (lv' := [(6, .int (nI (a124 % (2 + a14 % 5)))), (5, .int (nI a118)), (4, .int (nI k)), (3, .int (nI (2 + a14 % 5))), (2, .int (nI a14)), (1, .ref (K 7 0)), (0, .ref b)]) C.1 C.2.1 dL_drawn_127 hl (by decide) rfl (fun ls hl => ?_)
          refine lv_bipush (v := 20) C.1 C.2.1 dL_drawn_129 (by decide) ?_
          refine lv_iload C.1 C.2.1 dL_drawn_131 (lv_at hl 1 rfl) ?_
          refine lv_bipush (v := 8) C.1 C.2.1 dL_drawn_133 (by decide) ?_
          refine lx_ush C 8 (by decide) (by decide) (by decide) dL_drawn_135 (fun a135 ha135 => ?_)
          refine lv_iload_n C.1 C.2.1 dL_drawn_136 rfl (lv_at hl 4 rfl) ?_
          refine lv_iconst (v := 5) C.1 C.2.1 dL_drawn_137 (by decide) ?_
          refine lx_rem C (a := a14) (d := 5) rfl (by omega) (by omega) (by omega) dL_drawn_138 ?_
          refine w_join (σ := Int32) G (pc1 := 149) (fun v149 => ∃ d9, v149 = nI d9 ∧ 0 < d9 ∧ d9 ≤ 70) (fun _ => cW G K r D X) (fun _ => 262 + 5 * k) (fun _ => 2470 + 30 * k) (fun _ => [(6, .int (nI (a124 % (2 + a14 % 5)))), (5, .int (nI a118)), (4, .int (nI k)), (3, .int (nI (2 + a14 % 5))), (2, .int (nI a14)), (1, .ref (K 7 0)), (0, .ref b)]) (fun v149 => [.int v149, .int (nI a135), .int 20]) 11 (fun cont149 => ?_) ?_
          · refine lv_if_ne (tgt := 147) C.1 C.2.1 dL_drawn_139 (by decide) (fun c_139 => ?_) (fun c_139 => ?_)
            · refine lv_bipush (v := 9) C.1 C.2.1 dL_drawn_147 (by decide) ?_
              exact W.widen (k := 262 + 5 * k) (n := 2470 + 30 * k) (by omega) (by omega) (cont149 9 (⟨9, rfl, by omega, by omega⟩) _ _ hw _ (lv_sub hl [0, 1, 2, 3, 4, 5, 6] rfl))
            · refine lv_bipush (v := 70) C.1 C.2.1 dL_drawn_142 (by decide) ?_
              refine lv_goto (tgt := 149) C.1 C.2.1 dL_drawn_144 (by decide) ?_
              exact W.widen (k := 262 + 5 * k) (n := 2470 + 30 * k) (by omega) (by omega) (cont149 70 (⟨70, rfl, by omega, by omega⟩) _ _ hw _ (lv_sub hl [0, 1, 2, 3, 4, 5, 6] rfl))
          · intro v149 hv149 H locs hw ls hl
            replace hw : WH G s (cW G K r D X) H locs := hw
            replace hl : lv_has ls 11 [(6, .int (nI (a124 % (2 + a14 % 5)))), (5, .int (nI a118)), (4, .int (nI k)), (3, .int (nI (2 + a14 % 5))), (2, .int (nI a14)), (1, .ref (K 7 0)), (0, .ref b)] := hl
            show W p l e _ s m _ below meth c0 H locs (262 + 5 * k) (2470 + 30 * k) _ (F0 m 149 ls [.int v149, .int (nI a135), .int 20])
            obtain ⟨d149, rfl, hd149, hd149b⟩ := hv149
            refine lx_rem C (a := a135) (d := d149) rfl (by omega) (by omega) (by omega) dL_drawn_149 ?_
            have hm_149 : a135 % d149 < d149 := Nat.mod_lt _ (by omega)
            refine lv_iadd C.1 C.2.1 dL_drawn_150 ?_
            refine r_toe (show _ = nI (20 + (a135 % d149)) from nI_add 20 (a135 % d149)) ?_
            refine lv_istore (lv' := [(7, .int (nI (20 + (a135 % d149)))), (6, .int (nI (a124 % (2 + a14 % 5)))), (5, .int (nI a118)), (4, .int (nI k)), (3, .int (nI (2 + a14 % 5))), (2, .int (nI a14)), (1, .ref (K 7 0)), (0, .ref b)]) C.1 C.2.1 dL_drawn_151 hl (by decide) rfl (fun ls hl => ?_)
            refine lv_iconst (v := 1) C.1 C.2.1 dL_drawn_153 (by decide) ?_
            refine lv_iload C.1 C.2.1 dL_drawn_154 (lv_at hl 2 rfl) ?_
            refine lv_bipush (v := 15) C.1 C.2.1 dL_drawn_156 (by decide) ?_
            refine lx_ush C 15 (by decide) (by decide) (by decide) dL_drawn_158 (fun a158 ha158 => ?_)
            refine lv_iload_n C.1 C.2.1 dL_drawn_159 rfl (lv_at hl 5 rfl) ?_
            refine lv_bipush (v := 7) C.1 C.2.1 dL_drawn_160 (by decide) ?_
            refine lx_rem C (a := a14) (d := 7) rfl (by omega) (by omega) (by omega) dL_drawn_162 ?_
            refine w_join (σ := Int32) G (pc1 := 173) (fun v173 => ∃ d9, v173 = nI d9 ∧ 0 < d9 ∧ d9 ≤ 50) (fun _ => cW G K r D X) (fun _ => 262 + 5 * k) (fun _ => 2470 + 30 * k) (fun _ => [(7, .int (nI (20 + (a135 % d149)))), (6, .int (nI (a124 % (2 + a14 % 5)))), (5, .int (nI a118)), (4, .int (nI k)), (3, .int (nI (2 + a14 % 5))), (2, .int (nI a14)), (1, .ref (K 7 0)), (0, .ref b)]) (fun v173 => [.int v173, .int (nI a158), .int 1]) 11 (fun cont173 => ?_) ?_
            · refine lv_if_ne (tgt := 171) C.1 C.2.1 dL_drawn_163 (by decide) (fun c_163 => ?_) (fun c_163 => ?_)
              · refine lv_bipush (v := 8) C.1 C.2.1 dL_drawn_171 (by decide) ?_
                exact W.widen (k := 262 + 5 * k) (n := 2470 + 30 * k) (by omega) (by omega) (cont173 8 (⟨8, rfl, by omega, by omega⟩) _ _ hw _ (lv_sub hl [0, 1, 2, 3, 4, 5, 6, 7] rfl))
              · refine lv_bipush (v := 50) C.1 C.2.1 dL_drawn_166 (by decide) ?_
                refine lv_goto (tgt := 173) C.1 C.2.1 dL_drawn_168 (by decide) ?_
                exact W.widen (k := 262 + 5 * k) (n := 2470 + 30 * k) (by omega) (by omega) (cont173 50 (⟨50, rfl, by omega, by omega⟩) _ _ hw _ (lv_sub hl [0, 1, 2, 3, 4, 5, 6, 7] rfl))
            · intro v173 hv173 H locs hw ls hl
              replace hw : WH G s (cW G K r D X) H locs := hw
              replace hl : lv_has ls 11 [(7, .int (nI (20 + (a135 % d149)))), (6, .int (nI (a124 % (2 + a14 % 5)))), (5, .int (nI a118)), (4, .int (nI k)), (3, .int (nI (2 + a14 % 5))), (2, .int (nI a14)), (1, .ref (K 7 0)), (0, .ref b)] := hl
              show W p l e _ s m _ below meth c0 H locs (262 + 5 * k) (2470 + 30 * k) _ (F0 m 173 ls [.int v173, .int (nI a158), .int 1])
              obtain ⟨d173, rfl, hd173, hd173b⟩ := hv173
              refine lx_rem C (a := a158) (d := d173) rfl (by omega) (by omega) (by omega) dL_drawn_173 ?_
              have hm_173 : a158 % d173 < d173 := Nat.mod_lt _ (by omega)
              refine lv_iadd C.1 C.2.1 dL_drawn_174 ?_
              refine r_toe (show _ = nI (1 + (a158 % d173)) from nI_add 1 (a158 % d173)) ?_
              refine lv_istore (lv' := [(8, .int (nI (1 + (a158 % d173)))), (7, .int (nI (20 + (a135 % d149)))), (6, .int (nI (a124 % (2 + a14 % 5)))), (5, .int (nI a118)), (4, .int (nI k)), (3, .int (nI (2 + a14 % 5))), (2, .int (nI a14)), (1, .ref (K 7 0)), (0, .ref b)]) C.1 C.2.1 dL_drawn_175 hl (by decide) rfl (fun ls hl => ?_)
              refine lv_iload C.1 C.2.1 dL_drawn_177 (lv_at hl 3 rfl) ?_
              refine lv_bipush (v := 16) C.1 C.2.1 dL_drawn_179 (by decide) ?_
              refine lx_rem C (a := a118) (d := 16) rfl (by omega) (by omega) (by omega) dL_drawn_181 ?_
              refine lv_istore (lv' := [(9, .int (nI (a118 % 16))), (8, .int (nI (1 + (a158 % d173)))), (7, .int (nI (20 + (a135 % d149)))), (6, .int (nI (a124 % (2 + a14 % 5)))), (5, .int (nI a118)), (4, .int (nI k)), (3, .int (nI (2 + a14 % 5))), (2, .int (nI a14)), (1, .ref (K 7 0)), (0, .ref b)]) C.1 C.2.1 dL_drawn_182 hl (by decide) rfl (fun ls hl => ?_)
              have h11 : hasN (nI (a124 % (2 + a14 % 5))) (nT D.S) = true := by rw [hT0]; exact hasN_i (by omega) (by omega)
              have h12 : inR (nI (20 + a135 % d149)) 1 99 = true := n_inR (lo := 1) (hi := 99) ⟨by omega, by omega⟩ (by omega)
              have h13 : inR (nI (1 + a158 % d173)) 1 50 = true := n_inR (lo := 1) (hi := 50) ⟨by omega, by omega⟩ (by omega)
              refine lv_iload C.1 C.2.1 dL_drawn_184 (lv_at hl 0 rfl) ?_
              refine lv_iconst (v := 5) C.1 C.2.1 dL_drawn_186 (by decide) ?_
              refine w_join (σ := Int32 × CD) G (pc1 := 381) (fun z => MdP (360 + 60 * ((k : Int) + 1)) D z.1 z.2) (fun z => cW G K r z.2 X) (fun _ => 262 + 5 * k + 4) (fun _ => 2470 + 30 * k + 24) (fun _ => [(9, .int (nI (a118 % 16))), (8, .int (nI (1 + (a158 % d173)))), (7, .int (nI (20 + (a135 % d149)))), (6, .int (nI (a124 % (2 + a14 % 5)))), (5, .int (nI a118)), (4, .int (nI k)), (3, .int (nI (2 + a14 % 5))), (2, .int (nI a14)), (1, .ref (K 7 0)), (0, .ref b)]) (fun z => [.int z.1]) 11 (fun cont381 => ?_) ?_
              · refine lv_icmp_ge (tgt := 203) C.1 C.2.1 dL_drawn_187 (by decide) (fun c_187 => ?_) (fun c_187 => ?_)
                · refine lv_iload C.1 C.2.1 dL_drawn_203 (lv_at hl 0 rfl) ?_
                  refine lv_bipush (v := 10) C.1 C.2.1 dL_drawn_205 (by decide) ?_
                  refine lv_icmp_ge (tgt := 223) C.1 C.2.1 dL_drawn_207 (by decide) (fun c_207 => ?_) (fun c_207 => ?_)
                  · refine lv_iload C.1 C.2.1 dL_drawn_223 (lv_at hl 0 rfl) ?_
                    refine lv_bipush (v := 10) C.1 C.2.1 dL_drawn_225 (by decide) ?_
                    refine lv_icmp_ne (tgt := 253) C.1 C.2.1 dL_drawn_227 (by decide) (fun c_227 => ?_) (fun c_227 => ?_)
                    · refine lv_iload C.1 C.2.1 dL_drawn_253 (lv_at hl 0 rfl) ?_
                      refine lv_bipush (v := 11) C.1 C.2.1 dL_drawn_255 (by decide) ?_
                      refine lv_icmp_ne (tgt := 283) C.1 C.2.1 dL_drawn_257 (by decide) (fun c_257 => ?_) (fun c_257 => ?_)
                      · refine lv_iload C.1 C.2.1 dL_drawn_283 (lv_at hl 0 rfl) ?_
                        refine lv_bipush (v := 12) C.1 C.2.1 dL_drawn_285 (by decide) ?_
                        refine lv_icmp_ne (tgt := 303) C.1 C.2.1 dL_drawn_287 (by decide) (fun c_287 => ?_) (fun c_287 => ?_)
                        · refine lv_iload C.1 C.2.1 dL_drawn_303 (lv_at hl 0 rfl) ?_
                          refine lv_bipush (v := 13) C.1 C.2.1 dL_drawn_305 (by decide) ?_
                          refine lv_icmp_ne (tgt := 326) C.1 C.2.1 dL_drawn_307 (by decide) (fun c_307 => ?_) (fun c_307 => ?_)
                          · refine lv_iload C.1 C.2.1 dL_drawn_326 (lv_at hl 0 rfl) ?_
                            refine lv_bipush (v := 14) C.1 C.2.1 dL_drawn_328 (by decide) ?_
                            refine lv_icmp_ne (tgt := 346) C.1 C.2.1 dL_drawn_330 (by decide) (fun c_330 => ?_) (fun c_330 => ?_)
                            · refine lv_iload C.1 C.2.1 dL_drawn_346 (lv_at hl 5 rfl) ?_
                              refine lv_iconst (v := 2) C.1 C.2.1 dL_drawn_348 (by decide) ?_
                              refine lv_icmp_le (tgt := 366) C.1 C.2.1 dL_drawn_349 (by decide) (fun c_349 => ?_) (fun c_349 => ?_)
                              · refine lv_aload_n C.1 C.2.1 dL_drawn_366 rfl (lv_at hl 8 rfl) ?_
                                refine d_isPoolOpen C hw h ml_L_191 ⟨(Nat.le_of_ble_eq_true rfl), (Nat.le_of_ble_eq_true rfl)⟩ ⟨by show _ ≤ 360; omega, by show _ ≤ 3100; omega⟩ hl.1 (Nat.le_of_ble_eq_true rfl) dL_drawn_367 (fun H locs hw => ?_)
                                refine lv_if_eq (tgt := 377) C.1 C.2.1 dL_drawn_370 (by decide) (fun c_370 => ?_) (fun c_370 => ?_)
                                · refine lv_aload_n C.1 C.2.1 dL_drawn_377 rfl (lv_at hl 8 rfl) ?_
                                  refine r_hsi C hw (m_open hF h (d := (360 + 60 * ((k : Int) + 1))) (by omega) (by omega)  (K := K) (r := r) (X := X)) ml_L_198 yf_L_open (As := [.ref (K 7 0)]) rfl rfl ⟨(Nat.le_of_ble_eq_true rfl), (Nat.le_of_ble_eq_true rfl)⟩ ⟨by show _ ≤ 360; omega, by show _ ≤ 3100; omega⟩ hl.1 (Nat.le_of_ble_eq_true rfl) dL_drawn_378 (fun r_378 D9 H locs hp_378 hw => ?_)
                                  replace hw : WH G s (cW G K r D9 X) H locs := hw
                                  exact W.widen (k := 262 + 5 * k + 4) (n := 2470 + 30 * k + 24) (by omega) (by omega) (cont381 ⟨r_378, D9⟩ (md_open h (by omega) (by omega) (h.rl.1.2.2.1.trans c_370) hp_378) _ _ hw _ (lv_sub hl [0, 1, 2, 3, 4, 5, 6, 7, 8, 9] rfl))
                                · refine lv_iconst (v := 0) C.1 C.2.1 dL_drawn_373 (by decide) ?_
                                  refine lv_goto (tgt := 381) C.1 C.2.1 dL_drawn_374 (by decide) ?_
                                  exact W.widen (k := 262 + 5 * k + 4) (n := 2470 + 30 * k + 24) (by omega) (by omega) (cont381 ⟨0, D⟩ (⟨⟨_, h.mono (by omega) (by omega)⟩, show (0 : Int32) ≠ -1 by decide, show (0 : Int32) ≠ -2 by decide, rfl, id⟩) _ _ hw _ (lv_sub hl [0, 1, 2, 3, 4, 5, 6, 7, 8, 9] rfl))
                              · refine lv_aload_n C.1 C.2.1 dL_drawn_352 rfl (lv_at hl 8 rfl) ?_
                                refine d_isPoolOpen C hw h ml_L_191 ⟨(Nat.le_of_ble_eq_true rfl), (Nat.le_of_ble_eq_true rfl)⟩ ⟨by show _ ≤ 360; omega, by show _ ≤ 3100; omega⟩ hl.1 (Nat.le_of_ble_eq_true rfl) dL_drawn_353 (fun H locs hw => ?_)
                                refine lv_if_eq (tgt := 366) C.1 C.2.1 dL_drawn_356 (by decide) (fun c_356 => ?_) (fun c_356 => ?_)
                                · refine lv_aload_n C.1 C.2.1 dL_drawn_366 rfl (lv_at hl 8 rfl) ?_
                                  refine d_isPoolOpen C hw h ml_L_191 ⟨(Nat.le_of_ble_eq_true rfl), (Nat.le_of_ble_eq_true rfl)⟩ ⟨by show _ ≤ 360; omega, by show _ ≤ 3100; omega⟩ hl.1 (Nat.le_of_ble_eq_true rfl) dL_drawn_367 (fun H locs hw => ?_)
                                  refine lv_if_eq (tgt := 377) C.1 C.2.1 dL_drawn_370 (by decide) (fun c_370 => ?_) (fun c_370 => ?_)
                                  · refine lv_aload_n C.1 C.2.1 dL_drawn_377 rfl (lv_at hl 8 rfl) ?_
                                    refine r_hsi C hw (m_open hF h (d := (360 + 60 * ((k : Int) + 1))) (by omega) (by omega)  (K := K) (r := r) (X := X)) ml_L_198 yf_L_open (As := [.ref (K 7 0)]) rfl rfl ⟨(Nat.le_of_ble_eq_true rfl), (Nat.le_of_ble_eq_true rfl)⟩ ⟨by show _ ≤ 360; omega, by show _ ≤ 3100; omega⟩ hl.1 (Nat.le_of_ble_eq_true rfl) dL_drawn_378 (fun r_378 D9 H locs hp_378 hw => ?_)
                                    replace hw : WH G s (cW G K r D9 X) H locs := hw
                                    exact W.widen (k := 262 + 5 * k + 4) (n := 2470 + 30 * k + 24) (by omega) (by omega) (cont381 ⟨r_378, D9⟩ (md_open h (by omega) (by omega) (h.rl.1.2.2.1.trans c_370) hp_378) _ _ hw _ (lv_sub hl [0, 1, 2, 3, 4, 5, 6, 7, 8, 9] rfl))
                                  · refine lv_iconst (v := 0) C.1 C.2.1 dL_drawn_373 (by decide) ?_
                                    refine lv_goto (tgt := 381) C.1 C.2.1 dL_drawn_374 (by decide) ?_
                                    exact W.widen (k := 262 + 5 * k + 4) (n := 2470 + 30 * k + 24) (by omega) (by omega) (cont381 ⟨0, D⟩ (⟨⟨_, h.mono (by omega) (by omega)⟩, show (0 : Int32) ≠ -1 by decide, show (0 : Int32) ≠ -2 by decide, rfl, id⟩) _ _ hw _ (lv_sub hl [0, 1, 2, 3, 4, 5, 6, 7, 8, 9] rfl))
                                · refine lv_aload_n C.1 C.2.1 dL_drawn_359 rfl (lv_at hl 8 rfl) ?_
                                  refine r_hsi C hw (m_close hF h (d := (360 + 60 * ((k : Int) + 1))) (by omega) (by omega)  (K := K) (r := r) (X := X)) ml_L_195 yf_L_close (As := [.ref (K 7 0)]) rfl rfl ⟨(Nat.le_of_ble_eq_true rfl), (Nat.le_of_ble_eq_true rfl)⟩ ⟨by show _ ≤ 360; omega, by show _ ≤ 3100; omega⟩ hl.1 (Nat.le_of_ble_eq_true rfl) dL_drawn_360 (fun r_360 D9 H locs hp_360 hw => ?_)
                                  replace hw : WH G s (cW G K r D9 X) H locs := hw
                                  refine lv_goto (tgt := 381) C.1 C.2.1 dL_drawn_363 (by decide) ?_
                                  exact W.widen (k := 262 + 5 * k + 4) (n := 2470 + 30 * k + 24) (by omega) (by omega) (cont381 ⟨r_360, D9⟩ (md_close h (by omega) (by omega) (fun e9 => c_356 (h.rl.1.2.2.1.symm.trans e9)) hp_360) _ _ hw _ (lv_sub hl [0, 1, 2, 3, 4, 5, 6, 7, 8, 9] rfl))
                            · refine lv_aload_n C.1 C.2.1 dL_drawn_333 rfl (lv_at hl 8 rfl) ?_
                              refine lv_iload C.1 C.2.1 dL_drawn_334 (lv_at hl 3 rfl) ?_
                              refine lv_iload C.1 C.2.1 dL_drawn_336 (lv_at hl 2 rfl) ?_
                              refine lv_iload C.1 C.2.1 dL_drawn_338 (lv_at hl 1 rfl) ?_
                              refine r_hsi C hw (m_takeSell hF h (d := (360 + 60 * ((k : Int) + 1))) (by omega) (by omega) (nI (a124 % (2 + a14 % 5))) (nI (20 + (a135 % d149))) (nI (1 + (a158 % d173))) (K := K) (r := r) (X := X)) ml_L_189 yf_L_takeSell (As := [.ref (K 7 0), .int (nI (a124 % (2 + a14 % 5))), .int (nI (20 + (a135 % d149))), .int (nI (1 + (a158 % d173)))]) rfl rfl ⟨(Nat.le_of_ble_eq_true rfl), (Nat.le_of_ble_eq_true rfl)⟩ ⟨by show _ ≤ 360; omega, by show _ ≤ 3100; omega⟩ hl.1 (Nat.le_of_ble_eq_true rfl) dL_drawn_340 (fun r_340 D9 H locs hp_340 hw => ?_)
                              replace hw : WH G s (cW G K r D9 X) H locs := hw
                              refine lv_goto (tgt := 381) C.1 C.2.1 dL_drawn_343 (by decide) ?_
                              exact W.widen (k := 262 + 5 * k + 4) (n := 2470 + 30 * k + 24) (by omega) (by omega) (cont381 ⟨r_340, D9⟩ (md_takeSell h (by omega) (by omega) h11 h12 h13 hp_340) _ _ hw _ (lv_sub hl [0, 1, 2, 3, 4, 5, 6, 7, 8, 9] rfl))
                          · refine lv_aload_n C.1 C.2.1 dL_drawn_310 rfl (lv_at hl 8 rfl) ?_
                            refine lv_iconst (v := 1) C.1 C.2.1 dL_drawn_311 (by decide) ?_
                            refine lv_iload C.1 C.2.1 dL_drawn_312 (lv_at hl 4 rfl) ?_
                            refine lv_bipush (v := 20) C.1 C.2.1 dL_drawn_314 (by decide) ?_
                            refine lx_ush C 20 (by decide) (by decide) (by decide) dL_drawn_316 (fun a316 ha316 => ?_)
                            refine lv_iconst (v := 3) C.1 C.2.1 dL_drawn_317 (by decide) ?_
                            refine lx_rem C (a := a316) (d := 3) rfl (by omega) (by omega) (by omega) dL_drawn_318 ?_
                            refine lv_iadd C.1 C.2.1 dL_drawn_319 ?_
                            refine r_toe (show _ = nI (1 + (a316 % 3)) from nI_add 1 (a316 % 3)) ?_
                            refine r_hsi C hw (m_pass hF h (d := (360 + 60 * ((k : Int) + 1))) (by omega) (by omega) (nI (1 + (a316 % 3))) (K := K) (r := r) (X := X)) ml_L_186 yf_L_pass (As := [.ref (K 7 0), .int (nI (1 + (a316 % 3)))]) rfl rfl ⟨(Nat.le_of_ble_eq_true rfl), (Nat.le_of_ble_eq_true rfl)⟩ ⟨by show _ ≤ 360; omega, by show _ ≤ 3100; omega⟩ hl.1 (Nat.le_of_ble_eq_true rfl) dL_drawn_320 (fun r_320 D9 H locs hp_320 hw => ?_)
                            replace hw : WH G s (cW G K r D9 X) H locs := hw
                            refine lv_goto (tgt := 381) C.1 C.2.1 dL_drawn_323 (by decide) ?_
                            exact W.widen (k := 262 + 5 * k + 4) (n := 2470 + 30 * k + 24) (by omega) (by omega) (cont381 ⟨r_320, D9⟩ (md_pass h (by omega) (by omega) (by exact n_inR (lo := 1) (hi := 60) ⟨by omega, by omega⟩ (by omega)) hp_320) _ _ hw _ (lv_sub hl [0, 1, 2, 3, 4, 5, 6, 7, 8, 9] rfl))
                        · refine lv_aload_n C.1 C.2.1 dL_drawn_290 rfl (lv_at hl 8 rfl) ?_
                          refine lv_iload C.1 C.2.1 dL_drawn_291 (lv_at hl 3 rfl) ?_
                          refine lv_iload C.1 C.2.1 dL_drawn_293 (lv_at hl 2 rfl) ?_
                          refine lv_iload C.1 C.2.1 dL_drawn_295 (lv_at hl 1 rfl) ?_
                          refine r_hsi C hw (m_takeBuy hF h (d := (360 + 60 * ((k : Int) + 1))) (by omega) (by omega) (nI (a124 % (2 + a14 % 5))) (nI (20 + (a135 % d149))) (nI (1 + (a158 % d173))) (K := K) (r := r) (X := X)) ml_L_184 yf_L_takeBuy (As := [.ref (K 7 0), .int (nI (a124 % (2 + a14 % 5))), .int (nI (20 + (a135 % d149))), .int (nI (1 + (a158 % d173)))]) rfl rfl ⟨(Nat.le_of_ble_eq_true rfl), (Nat.le_of_ble_eq_true rfl)⟩ ⟨by show _ ≤ 360; omega, by show _ ≤ 3100; omega⟩ hl.1 (Nat.le_of_ble_eq_true rfl) dL_drawn_297 (fun r_297 D9 H locs hp_297 hw => ?_)
                          replace hw : WH G s (cW G K r D9 X) H locs := hw
                          refine lv_goto (tgt := 381) C.1 C.2.1 dL_drawn_300 (by decide) ?_
                          exact W.widen (k := 262 + 5 * k + 4) (n := 2470 + 30 * k + 24) (by omega) (by omega) (cont381 ⟨r_297, D9⟩ (md_takeBuy h (by omega) (by omega) h11 h12 h13 hp_297) _ _ hw _ (lv_sub hl [0, 1, 2, 3, 4, 5, 6, 7, 8, 9] rfl))
                      · refine lv_aload_n C.1 C.2.1 dL_drawn_260 rfl (lv_at hl 8 rfl) ?_
                        refine lv_iload C.1 C.2.1 dL_drawn_261 (lv_at hl 3 rfl) ?_
                        refine lv_iload C.1 C.2.1 dL_drawn_263 (lv_at hl 2 rfl) ?_
                        refine lv_iload C.1 C.2.1 dL_drawn_265 (lv_at hl 1 rfl) ?_
                        refine lv_iconst (v := 1) C.1 C.2.1 dL_drawn_267 (by decide) ?_
                        refine lv_iload C.1 C.2.1 dL_drawn_268 (lv_at hl 4 rfl) ?_
                        refine lv_bipush (v := 20) C.1 C.2.1 dL_drawn_270 (by decide) ?_
                        refine lx_ush C 20 (by decide) (by decide) (by decide) dL_drawn_272 (fun a272 ha272 => ?_)
                        refine lv_bipush (v := 9) C.1 C.2.1 dL_drawn_273 (by decide) ?_
                        refine lx_rem C (a := a272) (d := 9) rfl (by omega) (by omega) (by omega) dL_drawn_275 ?_
                        refine lv_iadd C.1 C.2.1 dL_drawn_276 ?_
                        refine r_toe (show _ = nI (1 + (a272 % 9)) from nI_add 1 (a272 % 9)) ?_
                        refine r_hsi C hw (m_sellFor hF h (d := (360 + 60 * ((k : Int) + 1))) (by omega) (by omega) (nI (a124 % (2 + a14 % 5))) (nI (20 + (a135 % d149))) (nI (1 + (a158 % d173))) (nI (1 + (a272 % 9))) (K := K) (r := r) (X := X)) ml_L_181 yf_L_sellFor (As := [.ref (K 7 0), .int (nI (a124 % (2 + a14 % 5))), .int (nI (20 + (a135 % d149))), .int (nI (1 + (a158 % d173))), .int (nI (1 + (a272 % 9)))]) rfl rfl ⟨(Nat.le_of_ble_eq_true rfl), (Nat.le_of_ble_eq_true rfl)⟩ ⟨by show _ ≤ 360; omega, by show _ ≤ 3100; omega⟩ hl.1 (Nat.le_of_ble_eq_true rfl) dL_drawn_277 (fun r_277 D9 H locs hp_277 hw => ?_)
                        replace hw : WH G s (cW G K r D9 X) H locs := hw
                        refine lv_goto (tgt := 381) C.1 C.2.1 dL_drawn_280 (by decide) ?_
                        exact W.widen (k := 262 + 5 * k + 4) (n := 2470 + 30 * k + 24) (by omega) (by omega) (cont381 ⟨r_277, D9⟩ (md_sellFor h (by omega) (by omega) h11 h12 h13 (by exact n_inR (lo := 1) (hi := 60) ⟨by omega, by omega⟩ (by omega)) hp_277) _ _ hw _ (lv_sub hl [0, 1, 2, 3, 4, 5, 6, 7, 8, 9] rfl))
                    · refine lv_aload_n C.1 C.2.1 dL_drawn_230 rfl (lv_at hl 8 rfl) ?_
                      refine lv_iload C.1 C.2.1 dL_drawn_231 (lv_at hl 3 rfl) ?_
                      refine lv_iload C.1 C.2.1 dL_drawn_233 (lv_at hl 2 rfl) ?_
                      refine lv_iload C.1 C.2.1 dL_drawn_235 (lv_at hl 1 rfl) ?_
                      refine lv_iconst (v := 1) C.1 C.2.1 dL_drawn_237 (by decide) ?_
                      refine lv_iload C.1 C.2.1 dL_drawn_238 (lv_at hl 4 rfl) ?_
                      refine lv_bipush (v := 20) C.1 C.2.1 dL_drawn_240 (by decide) ?_
                      refine lx_ush C 20 (by decide) (by decide) (by decide) dL_drawn_242 (fun a242 ha242 => ?_)
                      refine lv_bipush (v := 9) C.1 C.2.1 dL_drawn_243 (by decide) ?_
                      refine lx_rem C (a := a242) (d := 9) rfl (by omega) (by omega) (by omega) dL_drawn_245 ?_
                      refine lv_iadd C.1 C.2.1 dL_drawn_246 ?_
                      refine r_toe (show _ = nI (1 + (a242 % 9)) from nI_add 1 (a242 % 9)) ?_
                      refine r_hsi C hw (m_buyFor hF h (d := (360 + 60 * ((k : Int) + 1))) (by omega) (by omega) (nI (a124 % (2 + a14 % 5))) (nI (20 + (a135 % d149))) (nI (1 + (a158 % d173))) (nI (1 + (a242 % 9))) (K := K) (r := r) (X := X)) ml_L_177 yf_L_buyFor (As := [.ref (K 7 0), .int (nI (a124 % (2 + a14 % 5))), .int (nI (20 + (a135 % d149))), .int (nI (1 + (a158 % d173))), .int (nI (1 + (a242 % 9)))]) rfl rfl ⟨(Nat.le_of_ble_eq_true rfl), (Nat.le_of_ble_eq_true rfl)⟩ ⟨by show _ ≤ 360; omega, by show _ ≤ 3100; omega⟩ hl.1 (Nat.le_of_ble_eq_true rfl) dL_drawn_247 (fun r_247 D9 H locs hp_247 hw => ?_)
                      replace hw : WH G s (cW G K r D9 X) H locs := hw
                      refine lv_goto (tgt := 381) C.1 C.2.1 dL_drawn_250 (by decide) ?_
                      exact W.widen (k := 262 + 5 * k + 4) (n := 2470 + 30 * k + 24) (by omega) (by omega) (cont381 ⟨r_247, D9⟩ (md_buyFor h (by omega) (by omega) h11 h12 h13 (by exact n_inR (lo := 1) (hi := 60) ⟨by omega, by omega⟩ (by omega)) hp_247) _ _ hw _ (lv_sub hl [0, 1, 2, 3, 4, 5, 6, 7, 8, 9] rfl))
                  · refine lv_aload_n C.1 C.2.1 dL_drawn_210 rfl (lv_at hl 8 rfl) ?_
                    refine lv_iload C.1 C.2.1 dL_drawn_211 (lv_at hl 3 rfl) ?_
                    refine lv_iload C.1 C.2.1 dL_drawn_213 (lv_at hl 2 rfl) ?_
                    refine lv_iload C.1 C.2.1 dL_drawn_215 (lv_at hl 1 rfl) ?_
                    refine r_hsi C hw (m_sell hF h (d := (360 + 60 * ((k : Int) + 1))) (by omega) (by omega) (nI (a124 % (2 + a14 % 5))) (nI (20 + (a135 % d149))) (nI (1 + (a158 % d173))) (K := K) (r := r) (X := X)) ml_L_174 yf_L_sell (As := [.ref (K 7 0), .int (nI (a124 % (2 + a14 % 5))), .int (nI (20 + (a135 % d149))), .int (nI (1 + (a158 % d173)))]) rfl rfl ⟨(Nat.le_of_ble_eq_true rfl), (Nat.le_of_ble_eq_true rfl)⟩ ⟨by show _ ≤ 360; omega, by show _ ≤ 3100; omega⟩ hl.1 (Nat.le_of_ble_eq_true rfl) dL_drawn_217 (fun r_217 D9 H locs hp_217 hw => ?_)
                    replace hw : WH G s (cW G K r D9 X) H locs := hw
                    refine lv_goto (tgt := 381) C.1 C.2.1 dL_drawn_220 (by decide) ?_
                    exact W.widen (k := 262 + 5 * k + 4) (n := 2470 + 30 * k + 24) (by omega) (by omega) (cont381 ⟨r_217, D9⟩ (md_sell h (by omega) (by omega) h11 h12 h13 hp_217) _ _ hw _ (lv_sub hl [0, 1, 2, 3, 4, 5, 6, 7, 8, 9] rfl))
                · refine lv_aload_n C.1 C.2.1 dL_drawn_190 rfl (lv_at hl 8 rfl) ?_
                  refine lv_iload C.1 C.2.1 dL_drawn_191 (lv_at hl 3 rfl) ?_
                  refine lv_iload C.1 C.2.1 dL_drawn_193 (lv_at hl 2 rfl) ?_
                  refine lv_iload C.1 C.2.1 dL_drawn_195 (lv_at hl 1 rfl) ?_
                  refine r_hsi C hw (m_buy hF h (d := (360 + 60 * ((k : Int) + 1))) (by omega) (by omega) (nI (a124 % (2 + a14 % 5))) (nI (20 + (a135 % d149))) (nI (1 + (a158 % d173))) (K := K) (r := r) (X := X)) ml_L_170 yf_L_buy (As := [.ref (K 7 0), .int (nI (a124 % (2 + a14 % 5))), .int (nI (20 + (a135 % d149))), .int (nI (1 + (a158 % d173)))]) rfl rfl ⟨(Nat.le_of_ble_eq_true rfl), (Nat.le_of_ble_eq_true rfl)⟩ ⟨by show _ ≤ 360; omega, by show _ ≤ 3100; omega⟩ hl.1 (Nat.le_of_ble_eq_true rfl) dL_drawn_197 (fun r_197 D9 H locs hp_197 hw => ?_)
                  replace hw : WH G s (cW G K r D9 X) H locs := hw
                  refine lv_goto (tgt := 381) C.1 C.2.1 dL_drawn_200 (by decide) ?_
                  exact W.widen (k := 262 + 5 * k + 4) (n := 2470 + 30 * k + 24) (by omega) (by omega) (cont381 ⟨r_197, D9⟩ (md_buy h (by omega) (by omega) h11 h12 h13 hp_197) _ _ hw _ (lv_sub hl [0, 1, 2, 3, 4, 5, 6, 7, 8, 9] rfl))
              · rintro ⟨v381, E381⟩ hv381 H locs hw ls hl
                replace hw : WH G s (cW G K r E381 X) H locs := hw
                replace hl : lv_has ls 11 [(9, .int (nI (a118 % 16))), (8, .int (nI (1 + (a158 % d173)))), (7, .int (nI (20 + (a135 % d149)))), (6, .int (nI (a124 % (2 + a14 % 5)))), (5, .int (nI a118)), (4, .int (nI k)), (3, .int (nI (2 + a14 % 5))), (2, .int (nI a14)), (1, .ref (K 7 0)), (0, .ref b)] := hl
                replace hv381 : MdP (360 + 60 * ((k : Int) + 1)) D v381 E381 := hv381
                show W p l e _ s m _ below meth c0 H locs (262 + 5 * k + 4) (2470 + 30 * k + 24) _ (F0 m 381 ls [.int v381])
                refine lv_istore (lv' := [(10, .int v381), (9, .int (nI (a118 % 16))), (8, .int (nI (1 + (a158 % d173)))), (7, .int (nI (20 + (a135 % d149)))), (6, .int (nI (a124 % (2 + a14 % 5)))), (5, .int (nI a118)), (4, .int (nI k)), (3, .int (nI (2 + a14 % 5))), (2, .int (nI a14)), (1, .ref (K 7 0)), (0, .ref b)]) C.1 C.2.1 dL_drawn_381 hl (by decide) rfl (fun ls hl => ?_)
                refine lv_iload C.1 C.2.1 dL_drawn_383 (lv_at hl 0 rfl) ?_
                refine lv_iconst (v := -1) C.1 C.2.1 dL_drawn_385 (by decide) ?_
                refine lv_icmp_eq (tgt := 396) C.1 C.2.1 dL_drawn_386 (by decide) (fun c_386 => absurd c_386 (hv381.2.1)) (fun c_386 => ?_)
                refine lv_iload C.1 C.2.1 dL_drawn_389 (lv_at hl 0 rfl) ?_
                refine lv_bipush (v := -2) C.1 C.2.1 dL_drawn_391 (by decide) ?_
                refine lv_icmp_ne (tgt := 398) C.1 C.2.1 dL_drawn_393 (by decide) (fun c_393 => ?_) (fun c_393 => absurd c_393 (hv381.2.2.1))
                obtain ⟨⟨U9, h9⟩, -⟩ := id hv381
                refine lv_iinc (v := nI (k + 1)) (lv' := [(4, .int (nI (k + 1))), (10, .int v381), (9, .int (nI (a118 % 16))), (8, .int (nI (1 + (a158 % d173)))), (7, .int (nI (20 + (a135 % d149)))), (6, .int (nI (a124 % (2 + a14 % 5)))), (5, .int (nI a118)), (3, .int (nI (2 + a14 % 5))), (2, .int (nI a14)), (1, .ref (K 7 0)), (0, .ref b)]) C.1 C.2.1 dL_drawn_398 hl (k := 6) rfl (nI_add k 1) (by decide) rfl (fun ls hl => ?_)
                refine lv_goto (tgt := 101) C.1 C.2.1 dL_drawn_401 (by decide) ?_
                exact W.widen (k := 262 + 5 * (k + 1)) (n := 2470 + 30 * (k + 1)) (by omega) (by omega) (ih101 ⟨(k + 1), E381⟩ (⟨by omega, by omega, ⟨U9, by rw [show (360 + 60 * ((k + 1 : Nat) : Int)) = 360 + 60 * ((k : Int) + 1) by omega]; exact h9⟩, hv381.2.2.2.2 hn, hv381.2.2.2.1.trans h0⟩) _ _ hw _ (lv_sub hl [0, 7, 8, 9, 10] rfl))
      · rintro ⟨k, D⟩ ⟨hk8, hk9, -⟩; omega
    · have hk : k < 2 + a14 % 5 := by rw [nI_leI (by omega) (by omega)] at c_28; omega
      have hT0 : nT D.S = k := nT_of h0 (by omega)
      refine lv_aload_n C.1 C.2.1 dL_drawn_31 rfl (lv_at hl 4 rfl) ?_
      refine lv_iconst (v := 1) C.1 C.2.1 dL_drawn_32 (by decide) ?_
      refine lv_iload C.1 C.2.1 dL_drawn_33 (lv_at hl 0 rfl) ?_
      refine lv_iadd C.1 C.2.1 dL_drawn_35 ?_
      refine r_toe (show _ = nI (1 + k) from nI_add 1 k) ?_
      refine r_si C hw (k_cell hF hT hL ⟨(1 + k), by omega, rfl⟩) ml_L_163 yf_L_cell (As := [.ref b, .int (nI (1 + k))]) rfl rfl ⟨(Nat.le_of_ble_eq_true rfl), (Nat.le_of_ble_eq_true rfl)⟩ ⟨by show _ ≤ 360; omega, by show _ ≤ 3100; omega⟩ hl.1 (Nat.le_of_ble_eq_true rfl) dL_drawn_36 (fun r_36 _ H locs _ hw => ?_)
      refine lv_iconst (v := 1) C.1 C.2.1 dL_drawn_39 (by decide) ?_
      refine lx_ush C 1 (by decide) (by decide) (by decide) dL_drawn_40 (fun a40 ha40 => ?_)
      refine lv_istore (lv' := [(5, .int (nI a40)), (4, .int (nI k)), (3, .int (nI (2 + a14 % 5))), (2, .int (nI a14)), (1, .ref (K 7 0)), (0, .ref b)]) C.1 C.2.1 dL_drawn_41 hl (by decide) rfl (fun ls hl => ?_)
      refine lv_aload_n C.1 C.2.1 dL_drawn_43 rfl (lv_at hl 4 rfl) ?_
      refine lv_iload C.1 C.2.1 dL_drawn_44 (lv_at hl 0 rfl) ?_
      refine lv_iload_n C.1 C.2.1 dL_drawn_46 rfl (lv_at hl 3 rfl) ?_
      refine lv_iconst (v := 2) C.1 C.2.1 dL_drawn_47 (by decide) ?_
      refine lx_rem C (a := a14) (d := 2) rfl (by omega) (by omega) (by omega) dL_drawn_48 ?_
      refine w_join (σ := Int32) G (pc1 := 61) (fun v61 => ∃ d9, v61 = nI d9 ∧ 0 < d9 ∧ d9 ≤ 9999) (fun _ => cW G K r D X) (fun _ => 252 + k) (fun _ => 2420 + 6 * k) (fun _ => [(5, .int (nI a40)), (4, .int (nI k)), (3, .int (nI (2 + a14 % 5))), (2, .int (nI a14)), (1, .ref (K 7 0)), (0, .ref b)]) (fun v61 => [.int v61, .int (nI a40), .ref (K 7 0)]) 11 (fun cont61 => ?_) ?_
      · refine lv_if_ne (tgt := 58) C.1 C.2.1 dL_drawn_49 (by decide) (fun c_49 => ?_) (fun c_49 => ?_)
        · refine lv_sipush (v := 600) C.1 C.2.1 dL_drawn_58 (by decide) ?_
          exact W.widen (k := 252 + k) (n := 2420 + 6 * k) (by omega) (by omega) (cont61 600 (⟨600, rfl, by omega, by omega⟩) _ _ hw _ (lv_sub hl [0, 1, 2, 3, 4, 5] rfl))
        · refine lv_sipush (v := 9999) C.1 C.2.1 dL_drawn_52 (by decide) ?_
          refine lv_goto (tgt := 61) C.1 C.2.1 dL_drawn_55 (by decide) ?_
          exact W.widen (k := 252 + k) (n := 2420 + 6 * k) (by omega) (by omega) (cont61 9999 (⟨9999, rfl, by omega, by omega⟩) _ _ hw _ (lv_sub hl [0, 1, 2, 3, 4, 5] rfl))
      · intro v61 hv61 H locs hw ls hl
        replace hw : WH G s (cW G K r D X) H locs := hw
        replace hl : lv_has ls 11 [(5, .int (nI a40)), (4, .int (nI k)), (3, .int (nI (2 + a14 % 5))), (2, .int (nI a14)), (1, .ref (K 7 0)), (0, .ref b)] := hl
        show W p l e _ s m _ below meth c0 H locs (252 + k) (2420 + 6 * k) _ (F0 m 61 ls [.int v61, .int (nI a40), .ref (K 7 0)])
        obtain ⟨d61, rfl, hd61, hd61b⟩ := hv61
        refine lx_rem C (a := a40) (d := d61) rfl (by omega) (by omega) (by omega) dL_drawn_61 ?_
        have hm_61 : a40 % d61 < d61 := Nat.mod_lt _ (by omega)
        refine lv_iload C.1 C.2.1 dL_drawn_62 (lv_at hl 0 rfl) ?_
        refine lv_bipush (v := 14) C.1 C.2.1 dL_drawn_64 (by decide) ?_
        refine lx_ush C 14 (by decide) (by decide) (by decide) dL_drawn_66 (fun a66 ha66 => ?_)
        refine lv_iload_n C.1 C.2.1 dL_drawn_67 rfl (lv_at hl 3 rfl) ?_
        refine lv_iconst (v := 3) C.1 C.2.1 dL_drawn_68 (by decide) ?_
        refine lx_rem C (a := a14) (d := 3) rfl (by omega) (by omega) (by omega) dL_drawn_69 ?_
        refine w_join (σ := Int32) G (pc1 := 81) (fun v81 => ∃ d9, v81 = nI d9 ∧ 0 < d9 ∧ d9 ≤ 999) (fun _ => cW G K r D X) (fun _ => 252 + k) (fun _ => 2420 + 6 * k) (fun _ => [(5, .int (nI a40)), (4, .int (nI k)), (3, .int (nI (2 + a14 % 5))), (2, .int (nI a14)), (1, .ref (K 7 0)), (0, .ref b)]) (fun v81 => [.int v81, .int (nI a66), .int (nI (a40 % d61)), .ref (K 7 0)]) 11 (fun cont81 => ?_) ?_
        · refine lv_if_ne (tgt := 79) C.1 C.2.1 dL_drawn_70 (by decide) (fun c_70 => ?_) (fun c_70 => ?_)
          · refine lv_bipush (v := 80) C.1 C.2.1 dL_drawn_79 (by decide) ?_
            exact W.widen (k := 252 + k) (n := 2420 + 6 * k) (by omega) (by omega) (cont81 80 (⟨80, rfl, by omega, by omega⟩) _ _ hw _ (lv_sub hl [0, 1, 2, 3, 4, 5] rfl))
          · refine lv_sipush (v := 999) C.1 C.2.1 dL_drawn_73 (by decide) ?_
            refine lv_goto (tgt := 81) C.1 C.2.1 dL_drawn_76 (by decide) ?_
            exact W.widen (k := 252 + k) (n := 2420 + 6 * k) (by omega) (by omega) (cont81 999 (⟨999, rfl, by omega, by omega⟩) _ _ hw _ (lv_sub hl [0, 1, 2, 3, 4, 5] rfl))
        · intro v81 hv81 H locs hw ls hl
          replace hw : WH G s (cW G K r D X) H locs := hw
          replace hl : lv_has ls 11 [(5, .int (nI a40)), (4, .int (nI k)), (3, .int (nI (2 + a14 % 5))), (2, .int (nI a14)), (1, .ref (K 7 0)), (0, .ref b)] := hl
          show W p l e _ s m _ below meth c0 H locs (252 + k) (2420 + 6 * k) _ (F0 m 81 ls [.int v81, .int (nI a66), .int (nI (a40 % d61)), .ref (K 7 0)])
          obtain ⟨d81, rfl, hd81, hd81b⟩ := hv81
          refine lx_rem C (a := a66) (d := d81) rfl (by omega) (by omega) (by omega) dL_drawn_81 ?_
          have hm_81 : a66 % d81 < d81 := Nat.mod_lt _ (by omega)
          refine r_hsi C hw (m_addStall hF h (d := (60 * ((k : Int) + 1))) (by omega) (by omega) (nI (a40 % d61)) (nI (a66 % d81)) (K := K) (r := r) (X := X)) ml_L_167 yf_L_addStall (As := [.ref (K 7 0), .int (nI (a40 % d61)), .int (nI (a66 % d81))]) rfl rfl ⟨(Nat.le_of_ble_eq_true rfl), (Nat.le_of_ble_eq_true rfl)⟩ ⟨by show _ ≤ 360; omega, by show _ ≤ 3100; omega⟩ hl.1 (Nat.le_of_ble_eq_true rfl) dL_drawn_82 (fun r_82 D9 H locs hp_82 hw => ?_)
          replace hw : WH G s (cW G K r D9 X) H locs := hw
          obtain ⟨⟨U9, h9⟩, hr9, hc9, hn9⟩ := ma_as h hp_82 (as_fresh (by omega) (by omega) (by omega))
          rw [hT0] at hr9 hc9
          refine lv_iload C.1 C.2.1 dL_drawn_85 (lv_at hl 1 rfl) ?_
          refine lv_icmp_eq (tgt := 92) C.1 C.2.1 dL_drawn_87 (by decide) (fun c_87 => ?_) (fun c_87 => absurd (hr9) c_87)
          refine lv_iinc (v := nI (k + 1)) (lv' := [(4, .int (nI (k + 1))), (5, .int (nI a40)), (3, .int (nI (2 + a14 % 5))), (2, .int (nI a14)), (1, .ref (K 7 0)), (0, .ref b)]) C.1 C.2.1 dL_drawn_92 hl (k := 1) rfl (nI_add k 1) (by decide) rfl (fun ls hl => ?_)
          refine lv_goto (tgt := 25) C.1 C.2.1 dL_drawn_95 (by decide) ?_
          exact W.widen (k := 252 + (k + 1)) (n := 2420 + 6 * (k + 1)) (by omega) (by omega) (ih25 ⟨(k + 1), D9⟩ (⟨by omega, by omega, ⟨U9, by rw [show (60 * ((k + 1 : Nat) : Int)) = 60 * ((k : Int) + 1) by omega]; exact h9⟩, hn9 hn, hc9⟩) _ _ hw _ (lv_sub hl [0, 2, 3, 4, 5] rfl))
  · rintro ⟨k, D⟩ ⟨hk8, hk9, -⟩; omega

