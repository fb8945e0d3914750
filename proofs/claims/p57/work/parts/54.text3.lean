set_option maxHeartbeats 4000000 in
set_option maxRecDepth 100000 in
theorem k2_readParameters {l : Launch} {G : Gx} (hF : SF l G) {X : va_W} {t : Nat → Nat} {u : Nat × Nat × (Nat → Int32) × Int32} {L : List Int32} (hT : sbT u L) (hch : chL L) (hL : L.length ≤ 60) {vb : Nat} {p0 : Nat} {g : Nat → Int32} (hp0 : p0 ≤ L.length) (hvb : vb < 7) : MI l G yX2_readParameters cX2_readParameters 2 .boolean 6 0 0 [.ref (t 0)] (sbY G (t 1) u L ++ (ctC G t vb (nI p0) g ++ X)) (fun r _ => r = bI (rpR L vb (ndV vb + nnV vb) 0 p0 g).1) (fun _ : Unit => sbY G (t 1) u L ++ (ctC G t vb (nI (rpR L vb (ndV vb + nnV vb) 0 p0 g).2.1) ((rpR L vb (ndV vb + nnV vb) 0 p0 g).2.2) ++ X)) := by
  refine mt_of hF (by decide) (Nat.le_of_ble_eq_true rfl) ?_
  intro p e s m below meth c C hin ls hl H locs hw
  have hl : lv_has ls 2 [(0, .ref (t 0))] := hl
  have hdn := (dg_n vb hvb).2.2
  refine lv_iconst (v := 0) C.1 C.2.1 dX2_readParameters_0 (by decide) ?_
  refine lv_istore_n (lv' := [(1, .int 0), (0, .ref (t 0))]) C.1 C.2.1 dX2_readParameters_1 rfl hl (by decide) rfl (fun ls hl => ?_)
  refine w_loop (σ := Nat × Nat × (Nat → Int32)) G (fun u ⟨i, q, g1⟩ => i ≤ (ndV vb + nnV vb) ∧ (ndV vb + nnV vb) < i + u ∧ q ≤ L.length ∧ rpR L vb ((ndV vb + nnV vb) - i) i q g1 = rpR L vb (ndV vb + nnV vb) 0 p0 g) (fun ⟨i, q, g1⟩ => sbY G (t 1) u L ++ (ctC G t vb (nI q) g1 ++ X)) (fun ⟨i, q, g1⟩ => 0) (fun ⟨i, q, g1⟩ => 0) (fun ⟨i, q, g1⟩ => [(0, .ref (t 0)), (1, .int (nI i))]) 2 ?_ ?_ ((ndV vb + nnV vb) + 1) (0, p0, g) (⟨Nat.zero_le _, by omega, hp0, rfl⟩) hw (lv_sub hl [1, 0] rfl)
  · rintro n2 ⟨i, q, g1⟩ ⟨h1, h2, h4, h3⟩ ih2 H locs hw ls hl
    replace hw : WH G s (sbY G (t 1) u L ++ (ctC G t vb (nI q) g1 ++ X)) H locs := hw
    replace hl : lv_has ls 2 [(0, .ref (t 0)), (1, .int (nI i))] := hl
    refine lv_iload_n C.1 C.2.1 dX2_readParameters_2 rfl (lv_at hl 1 rfl) ?_
    refine lv_aload_n C.1 C.2.1 dX2_readParameters_3 rfl (lv_at hl 0 rfl) ?_
    refine r_get C hw 2 rfl rfl in_X2 2 (by decide) fl_X2_33 rfl (v := .ref (G.2.2.2.2 vb)) rfl dX2_readParameters_4 ?_
    refine r_of C hw (C.2.2.2.2.2.2.2.2.vfl (i := vb) hvb (q := flV.getD 1 default) (by decide)) fl_X2_97 rfl dX2_readParameters_7 ?_
    refine r_toe (show _ = nI (ndV vb) from (dg_n vb hvb).1) ?_
    refine lv_aload_n C.1 C.2.1 dX2_readParameters_10 rfl (lv_at hl 0 rfl) ?_
    refine r_get C hw 2 rfl rfl in_X2 2 (by decide) fl_X2_33 rfl (v := .ref (G.2.2.2.2 vb)) rfl dX2_readParameters_11 ?_
    refine r_of C hw (C.2.2.2.2.2.2.2.2.vfl (i := vb) hvb (q := flV.getD 2 default) (by decide)) fl_X2_100 rfl dX2_readParameters_14 ?_
    refine r_toe (show _ = nI (nnV vb) from (dg_n vb hvb).2.1) ?_
    refine lv_iadd C.1 C.2.1 dX2_readParameters_17 ?_
    refine r_toe (show _ = nI (ndV vb + nnV vb) from nI_add _ _) ?_
    refine lv_icmp_ge (tgt := 62) C.1 C.2.1 dX2_readParameters_18 (by decide) (fun c_18 => ?_) (fun c_18 => ?_)
    · have hie : i = ndV vb + nnV vb := le_T h1 (by omega) c_18
      refine lv_iconst (v := 1) C.1 C.2.1 dX2_readParameters_62 (by decide) ?_
      have hz : rpR L vb (ndV vb + nnV vb) 0 p0 g = (true, q, g1) := by rw [← h3, hie, Nat.sub_self]; rfl
      exact r_iret C hw rfl rfl () (by rw [hz]; rfl) (by rw [hz]) (Nat.le_of_ble_eq_true rfl) (Nat.le_of_ble_eq_true rfl) dX2_readParameters_63
    · have hi := le_F h1 (by omega) c_18
      refine lv_aload_n C.1 C.2.1 dX2_readParameters_21 rfl (lv_at hl 0 rfl) ?_
      refine lv_bipush (v := 32) C.1 C.2.1 dX2_readParameters_22 (by decide) ?_
      refine r_vi C hw (k2_readSign hF (X := X) hT hch hL (vb := vb) (p0 := q) (g := g1) (by omega) 32) ml_X2_58 yf_X2_readSign 2 rfl rfl (As := [.int 32]) rfl rfl ⟨(Nat.le_of_ble_eq_true rfl), (Nat.le_of_ble_eq_true rfl)⟩ ⟨(Nat.le_of_ble_eq_true rfl), (Nat.le_of_ble_eq_true rfl)⟩ hl.1 (Nat.le_of_ble_eq_true rfl) dX2_readParameters_24 (fun r_24 u_24 H locs hp_24 hw => ?_)
      obtain rfl : r_24 = bI (stB L q 32) := hp_24
      replace hw : WH G s (sbY G (t 1) u L ++ (ctC G t vb (nI (if stB L q 32 = true then q + 1 else q)) g1 ++ X)) H locs := hw
      refine lv_if_eq (tgt := 54) C.1 C.2.1 dX2_readParameters_27 (by decide) (fun c_27 => ?_) (fun c_27 => ?_)
      · have b_27 : stB L q 32 = false := bI_eq0.mp c_27
        rw [b_27, if_neg (by decide)] at hw
        replace hw : WH G s (sbY G (t 1) u L ++ (ctC G t vb (nI q) g1 ++ X)) H locs := hw
        refine lv_iconst (v := 0) C.1 C.2.1 dX2_readParameters_54 (by decide) ?_
        have hz : rpR L vb (ndV vb + nnV vb) 0 p0 g = (false, q, g1) := by rw [← h3, show (ndV vb + nnV vb) - i = ((ndV vb + nnV vb) - (i + 1)) + 1 by omega, rpR, if_neg (by rw [b_27]; decide)]
        exact r_iret C hw rfl rfl () (by rw [hz]; rfl) (by rw [hz]) (Nat.le_of_ble_eq_true rfl) (Nat.le_of_ble_eq_true rfl) dX2_readParameters_55
      · have b_27 : stB L q 32 = true := bI_ne0.mp c_27
        rw [b_27, if_pos rfl] at hw
        have hlt : q + 1 ≤ L.length := stB_lt b_27
        replace hw : WH G s (sbY G (t 1) u L ++ (ctC G t vb (nI (q + 1)) g1 ++ X)) H locs := hw
        refine lv_aload_n C.1 C.2.1 dX2_readParameters_30 rfl (lv_at hl 0 rfl) ?_
        refine lv_iload_n C.1 C.2.1 dX2_readParameters_31 rfl (lv_at hl 1 rfl) ?_
        refine lv_iload_n C.1 C.2.1 dX2_readParameters_32 rfl (lv_at hl 1 rfl) ?_
        refine lv_aload_n C.1 C.2.1 dX2_readParameters_33 rfl (lv_at hl 0 rfl) ?_
        refine r_get C hw 2 rfl rfl in_X2 2 (by decide) fl_X2_33 rfl (v := .ref (G.2.2.2.2 vb)) rfl dX2_readParameters_34 ?_
        refine r_of C hw (C.2.2.2.2.2.2.2.2.vfl (i := vb) hvb (q := flV.getD 1 default) (by decide)) fl_X2_97 rfl dX2_readParameters_37 ?_
        refine r_toe (show _ = nI (ndV vb) from (dg_n vb hvb).1) ?_
        refine lv_icmp_ge (tgt := 47) C.1 C.2.1 dX2_readParameters_40 (by decide) (fun c_40 => ?_) (fun c_40 => ?_)
        · have h40 : ndV vb ≤ i := (nI_leI (by omega) (by omega)).mp c_40
          refine lv_iconst (v := 3) C.1 C.2.1 dX2_readParameters_47 (by decide) ?_
          refine r_vi C hw (k2_readNumber hF (X := X) hT hch hL (vb := vb) (p0 := q + 1) (g := g1) hlt (ix := i) (mo1 := 3) (by omega) (by decide)) ml_X2_103 yf_X2_readNumber 2 rfl rfl (As := [.int (nI i), .int 3]) rfl rfl ⟨(Nat.le_of_ble_eq_true rfl), (Nat.le_of_ble_eq_true rfl)⟩ ⟨(Nat.le_of_ble_eq_true rfl), (Nat.le_of_ble_eq_true rfl)⟩ hl.1 (Nat.le_of_ble_eq_true rfl) dX2_readParameters_48 (fun r_48 u_48 H locs hp_48 hw => ?_)
          obtain rfl : r_48 = bI (decide (q + 1 < (nmC L 3 (q + 1) 0).1)) := hp_48
          replace hw : WH G s (sbY G (t 1) u L ++ (ctC G t vb (nI (nmC L 3 (q + 1) 0).1) (upd g1 i (nmC L 3 (q + 1) 0).2) ++ X)) H locs := hw
          have hle := @nmC_le L 3 (q + 1) 0 hlt
          refine lv_if_ne (tgt := 56) C.1 C.2.1 dX2_readParameters_51 (by decide) (fun c_51 => ?_) (fun c_51 => ?_)
          · have hgt := of_decide_eq_true (bI_ne0.mp c_51)
            refine lv_iinc (v := nI (i + 1)) (lv' := [(1, .int (nI (i + 1))), (0, .ref (t 0))]) C.1 C.2.1 dX2_readParameters_56 hl (k := 1) rfl (inc_nI i) (by decide) rfl (fun ls hl => ?_)
            refine lv_goto (tgt := 2) C.1 C.2.1 dX2_readParameters_59 (by decide) ?_
            exact ih2 (i + 1, (nmC L 3 (q + 1) 0).1, upd g1 i (nmC L 3 (q + 1) 0).2) (⟨by omega, by omega, hle.2, by rw [← h3, show (ndV vb + nnV vb) - i = ((ndV vb + nnV vb) - (i + 1)) + 1 by omega, rpR, if_pos b_27, if_pos h40, if_pos hgt]⟩) _ _ hw _ (lv_sub hl [1, 0] rfl)
          · have hgt := of_decide_eq_false (bI_eq0.mp c_51)
            refine lv_iconst (v := 0) C.1 C.2.1 dX2_readParameters_54 (by decide) ?_
            have hz : rpR L vb (ndV vb + nnV vb) 0 p0 g = (false, (nmC L 3 (q + 1) 0).1, upd g1 i (nmC L 3 (q + 1) 0).2) := by rw [← h3, show (ndV vb + nnV vb) - i = ((ndV vb + nnV vb) - (i + 1)) + 1 by omega, rpR, if_pos b_27, if_pos h40, if_neg hgt]
            exact r_iret C hw rfl rfl () (by rw [hz]; rfl) (by rw [hz]) (Nat.le_of_ble_eq_true rfl) (Nat.le_of_ble_eq_true rfl) dX2_readParameters_55
        · have h40 : ¬ ndV vb ≤ i := mt (nI_leI (by omega) (by omega)).mpr c_40
          refine lv_iconst (v := 1) C.1 C.2.1 dX2_readParameters_43 (by decide) ?_
          refine lv_goto (tgt := 48) C.1 C.2.1 dX2_readParameters_44 (by decide) ?_
          refine r_vi C hw (k2_readNumber hF (X := X) hT hch hL (vb := vb) (p0 := q + 1) (g := g1) hlt (ix := i) (mo1 := 1) (by omega) (by decide)) ml_X2_103 yf_X2_readNumber 2 rfl rfl (As := [.int (nI i), .int 1]) rfl rfl ⟨(Nat.le_of_ble_eq_true rfl), (Nat.le_of_ble_eq_true rfl)⟩ ⟨(Nat.le_of_ble_eq_true rfl), (Nat.le_of_ble_eq_true rfl)⟩ hl.1 (Nat.le_of_ble_eq_true rfl) dX2_readParameters_48 (fun r_48 u_48 H locs hp_48 hw => ?_)
          obtain rfl : r_48 = bI (decide (q + 1 < (nmC L 1 (q + 1) 0).1)) := hp_48
          replace hw : WH G s (sbY G (t 1) u L ++ (ctC G t vb (nI (nmC L 1 (q + 1) 0).1) (upd g1 i (nmC L 1 (q + 1) 0).2) ++ X)) H locs := hw
          have hle := @nmC_le L 1 (q + 1) 0 hlt
          refine lv_if_ne (tgt := 56) C.1 C.2.1 dX2_readParameters_51 (by decide) (fun c_51 => ?_) (fun c_51 => ?_)
          · have hgt := of_decide_eq_true (bI_ne0.mp c_51)
            refine lv_iinc (v := nI (i + 1)) (lv' := [(1, .int (nI (i + 1))), (0, .ref (t 0))]) C.1 C.2.1 dX2_readParameters_56 hl (k := 1) rfl (inc_nI i) (by decide) rfl (fun ls hl => ?_)
            refine lv_goto (tgt := 2) C.1 C.2.1 dX2_readParameters_59 (by decide) ?_
            exact ih2 (i + 1, (nmC L 1 (q + 1) 0).1, upd g1 i (nmC L 1 (q + 1) 0).2) (⟨by omega, by omega, hle.2, by rw [← h3, show (ndV vb + nnV vb) - i = ((ndV vb + nnV vb) - (i + 1)) + 1 by omega, rpR, if_pos b_27, if_neg h40, if_pos hgt]⟩) _ _ hw _ (lv_sub hl [1, 0] rfl)
          · have hgt := of_decide_eq_false (bI_eq0.mp c_51)
            refine lv_iconst (v := 0) C.1 C.2.1 dX2_readParameters_54 (by decide) ?_
            have hz : rpR L vb (ndV vb + nnV vb) 0 p0 g = (false, (nmC L 1 (q + 1) 0).1, upd g1 i (nmC L 1 (q + 1) 0).2) := by rw [← h3, show (ndV vb + nnV vb) - i = ((ndV vb + nnV vb) - (i + 1)) + 1 by omega, rpR, if_pos b_27, if_neg h40, if_neg hgt]
            exact r_iret C hw rfl rfl () (by rw [hz]; rfl) (by rw [hz]) (Nat.le_of_ble_eq_true rfl) (Nat.le_of_ble_eq_true rfl) dX2_readParameters_55
  · rintro ⟨i, q, g1⟩ ⟨h1, h2, h4, h3⟩; omega

set_option maxHeartbeats 4000000 in
set_option maxRecDepth 100000 in
theorem k2_readCommand {l : Launch} {G : Gx} (hF : SF l G) {X : va_W} {t : Nat → Nat} {u : Nat × Nat × (Nat → Int32) × Int32} {L : List Int32} (hT : sbT u L) (hch : chL L) (hL : L.length ≤ 60) {vb : Nat} {p0 : Nat} {g : Nat → Int32} (hp0 : p0 ≤ L.length) (hvb : vb < 7) : MI l G yX2_readCommand cX2_readCommand 1 .boolean 7 0 0 [.ref (t 0)] (sbY G (t 1) u L ++ (ctC G t vb (nI p0) g ++ X)) (fun r _ => r = bI (rcC L p0 vb g).1) (fun _ : Unit => sbY G (t 1) u L ++ (ctC G t ((rcC L p0 vb g).2.2.1) (nI (rcC L p0 vb g).2.1) ((rcC L p0 vb g).2.2.2) ++ X)) := by
  refine mt_of hF (by decide) (Nat.le_of_ble_eq_true rfl) ?_
  intro p e s m below meth c C hin ls hl H locs hw
  have hl : lv_has ls 1 [(0, .ref (t 0))] := hl
  refine lv_aload_n C.1 C.2.1 dX2_readCommand_0 rfl (lv_at hl 0 rfl) ?_
  refine r_get C hw 2 rfl rfl in_X2 3 (by decide) fl_X2_36 rfl (v := .int (nI p0)) rfl dX2_readCommand_1 ?_
  refine w_join (σ := Nat) G (pc1 := 18) (fun q => rcQ L p0 = some q) (fun q => sbY G (t 1) u L ++ (ctC G t vb (nI q) g ++ X)) (fun q => 0) (fun q => 0) (fun q => [(0, .ref (t 0))]) (fun q => []) 1 (fun cont18 => ?_) ?_
  · refine lv_if_le (tgt := 18) C.1 C.2.1 dX2_readCommand_4 (by decide) (fun c_4 => ?_) (fun c_4 => ?_)
    · have h0 : p0 = 0 := by have := (nI_leI (a := p0) (b := 0) (by omega) (by decide)).mp c_4; omega
      rw [h0] at hw
      replace hw : WH G s (sbY G (t 1) u L ++ (ctC G t vb (nI 0) g ++ X)) H locs := hw
      exact cont18 0 (by rw [rcQ, if_pos h0]) _ _ hw _ (lv_sub hl [0] rfl)
    · have h0 : ¬ p0 = 0 := by have := mt (nI_leI (a := p0) (b := 0) (by omega) (by decide)).mpr c_4; omega
      refine lv_aload_n C.1 C.2.1 dX2_readCommand_7 rfl (lv_at hl 0 rfl) ?_
      refine lv_bipush (v := 59) C.1 C.2.1 dX2_readCommand_8 (by decide) ?_
      refine r_vi C hw (k2_readSign hF (X := X) hT hch hL (vb := vb) (p0 := p0) (g := g) (by omega) 59) ml_X2_58 yf_X2_readSign 2 rfl rfl (As := [.int 59]) rfl rfl ⟨(Nat.le_of_ble_eq_true rfl), (Nat.le_of_ble_eq_true rfl)⟩ ⟨(Nat.le_of_ble_eq_true rfl), (Nat.le_of_ble_eq_true rfl)⟩ hl.1 (Nat.le_of_ble_eq_true rfl) dX2_readCommand_10 (fun r_10 u_10 H locs hp_10 hw => ?_)
      obtain rfl : r_10 = bI (stB L p0 59) := hp_10
      replace hw : WH G s (sbY G (t 1) u L ++ (ctC G t vb (nI (if stB L p0 59 = true then p0 + 1 else p0)) g ++ X)) H locs := hw
      refine lv_if_ne (tgt := 18) C.1 C.2.1 dX2_readCommand_13 (by decide) (fun c_13 => ?_) (fun c_13 => ?_)
      · have b_13 : stB L p0 59 = true := bI_ne0.mp c_13
        rw [b_13, if_pos rfl] at hw
        replace hw : WH G s (sbY G (t 1) u L ++ (ctC G t vb (nI (p0 + 1)) g ++ X)) H locs := hw
        exact cont18 (p0 + 1) (by rw [rcQ, if_neg h0, if_pos b_13]) _ _ hw _ (lv_sub hl [0] rfl)
      · have b_13 : stB L p0 59 = false := bI_eq0.mp c_13
        rw [b_13, if_neg (by decide)] at hw
        replace hw : WH G s (sbY G (t 1) u L ++ (ctC G t vb (nI p0) g ++ X)) H locs := hw
        refine lv_iconst (v := 0) C.1 C.2.1 dX2_readCommand_16 (by decide) ?_
        have hz : rcC L p0 vb g = (false, p0, vb, g) := by rw [rcC, rcQ, if_neg h0, if_neg (by rw [b_13]; decide)]
        exact r_iret C hw rfl rfl () (by rw [hz]; rfl) (by rw [hz]) (Nat.le_of_ble_eq_true rfl) (Nat.le_of_ble_eq_true rfl) dX2_readCommand_17
  · rintro q hq H locs hw ls hl
    replace hw : WH G s (sbY G (t 1) u L ++ (ctC G t vb (nI q) g ++ X)) H locs := hw
    replace hl : lv_has ls 1 [(0, .ref (t 0))] := hl
    have hql := rcQ_le hq hp0
    refine lv_aload_n C.1 C.2.1 dX2_readCommand_18 rfl (lv_at hl 0 rfl) ?_
    refine r_vi C hw (k2_readVerb hF (X := X) hT hch hL (vb := vb) (p0 := q) (g := g) hql) ml_X2_62 yf_X2_readVerb 2 rfl rfl (As := []) rfl rfl ⟨(Nat.le_of_ble_eq_true rfl), (Nat.le_of_ble_eq_true rfl)⟩ ⟨(Nat.le_of_ble_eq_true rfl), (Nat.le_of_ble_eq_true rfl)⟩ hl.1 (Nat.le_of_ble_eq_true rfl) dX2_readCommand_19 (fun r_19 u_19 H locs hp_19 hw => ?_)
    obtain rfl : r_19 = bI (rvC L q vb).1 := hp_19
    replace hw : WH G s (sbY G (t 1) u L ++ (ctC G t ((rvC L q vb).2.1) (nI (rvC L q vb).2.2) g ++ X)) H locs := hw
    have hrv := @rvC_le L q vb hql hvb
    refine lv_if_eq (tgt := 36) C.1 C.2.1 dX2_readCommand_22 (by decide) (fun c_22 => ?_) (fun c_22 => ?_)
    · have b_22 := bI_eq0.mp c_22
      refine lv_iconst (v := 0) C.1 C.2.1 dX2_readCommand_36 (by decide) ?_
      have hz : rcC L p0 vb g = (false, (rvC L q vb).2.2, (rvC L q vb).2.1, g) := by unfold rcC; rw [hq]; show (if _ = true then _ else _) = _; rw [if_neg (by rw [b_22]; decide)]
      exact r_iret C hw rfl rfl () (by rw [hz]; rfl) (by rw [hz]) (Nat.le_of_ble_eq_true rfl) (Nat.le_of_ble_eq_true rfl) dX2_readCommand_37
    · have b_22 := bI_ne0.mp c_22
      refine lv_aload_n C.1 C.2.1 dX2_readCommand_25 rfl (lv_at hl 0 rfl) ?_
      refine r_vi C hw (k2_readParameters hF (X := X) hT hch hL (vb := (rvC L q vb).2.1) (p0 := (rvC L q vb).2.2) (g := g) hrv.1 hrv.2) ml_X2_65 yf_X2_readParameters 2 rfl rfl (As := []) rfl rfl ⟨(Nat.le_of_ble_eq_true rfl), (Nat.le_of_ble_eq_true rfl)⟩ ⟨(Nat.le_of_ble_eq_true rfl), (Nat.le_of_ble_eq_true rfl)⟩ hl.1 (Nat.le_of_ble_eq_true rfl) dX2_readCommand_26 (fun r_26 u_26 H locs hp_26 hw => ?_)
      obtain rfl : r_26 = bI (rpR L (rvC L q vb).2.1 (ndV (rvC L q vb).2.1 + nnV (rvC L q vb).2.1) 0 (rvC L q vb).2.2 g).1 := hp_26
      replace hw : WH G s (sbY G (t 1) u L ++ (ctC G t ((rvC L q vb).2.1) (nI (rpR L (rvC L q vb).2.1 (ndV (rvC L q vb).2.1 + nnV (rvC L q vb).2.1) 0 (rvC L q vb).2.2 g).2.1) ((rpR L (rvC L q vb).2.1 (ndV (rvC L q vb).2.1 + nnV (rvC L q vb).2.1) 0 (rvC L q vb).2.2 g).2.2) ++ X)) H locs := hw
      refine lv_if_eq (tgt := 36) C.1 C.2.1 dX2_readCommand_29 (by decide) (fun c_29 => ?_) (fun c_29 => ?_)
      · have b_29 := bI_eq0.mp c_29
        refine lv_iconst (v := 0) C.1 C.2.1 dX2_readCommand_36 (by decide) ?_
        have hz : rcC L p0 vb g = ((rpR L (rvC L q vb).2.1 (ndV (rvC L q vb).2.1 + nnV (rvC L q vb).2.1) 0 (rvC L q vb).2.2 g).1, (rpR L (rvC L q vb).2.1 (ndV (rvC L q vb).2.1 + nnV (rvC L q vb).2.1) 0 (rvC L q vb).2.2 g).2.1, (rvC L q vb).2.1, (rpR L (rvC L q vb).2.1 (ndV (rvC L q vb).2.1 + nnV (rvC L q vb).2.1) 0 (rvC L q vb).2.2 g).2.2) := by unfold rcC; rw [hq]; show (if _ = true then _ else _) = _; rw [if_pos b_22]
        exact r_iret C hw rfl rfl () (by rw [hz]; show _ = bI _; rw [b_29]; rfl) (by rw [hz]) (Nat.le_of_ble_eq_true rfl) (Nat.le_of_ble_eq_true rfl) dX2_readCommand_37
      · have b_29 := bI_ne0.mp c_29
        refine lv_iconst (v := 1) C.1 C.2.1 dX2_readCommand_32 (by decide) ?_
        refine lv_goto (tgt := 37) C.1 C.2.1 dX2_readCommand_33 (by decide) ?_
        have hz : rcC L p0 vb g = ((rpR L (rvC L q vb).2.1 (ndV (rvC L q vb).2.1 + nnV (rvC L q vb).2.1) 0 (rvC L q vb).2.2 g).1, (rpR L (rvC L q vb).2.1 (ndV (rvC L q vb).2.1 + nnV (rvC L q vb).2.1) 0 (rvC L q vb).2.2 g).2.1, (rvC L q vb).2.1, (rpR L (rvC L q vb).2.1 (ndV (rvC L q vb).2.1 + nnV (rvC L q vb).2.1) 0 (rvC L q vb).2.2 g).2.2) := by unfold rcC; rw [hq]; show (if _ = true then _ else _) = _; rw [if_pos b_22]
        exact r_iret C hw rfl rfl () (by rw [hz]; show _ = bI _; rw [b_29]; rfl) (by rw [hz]) (Nat.le_of_ble_eq_true rfl) (Nat.le_of_ble_eq_true rfl) dX2_readCommand_37

set_option maxHeartbeats 4000000 in
set_option maxRecDepth 100000 in
theorem k2_countCommands {l : Launch} {G : Gx} (hF : SF l G) {X : va_W} {t : Nat → Nat} {u : Nat × Nat × (Nat → Int32) × Int32} {L : List Int32} (hT : sbT u L) (hch : chL L) (hL : L.length ≤ 60) {vb : Nat} {p0 : Nat} {g : Nat → Int32} (hvb : vb < 7) : MI l G yX2_countCommands cX2_countCommands 2 .int 8 0 0 [.ref (t 0)] (sbY G (t 1) u L ++ (ctC G t vb (nI p0) g ++ X)) (fun r _ => r = oI (cnC L 60 1 0 vb g).1) (fun _ : Unit => sbY G (t 1) u L ++ (ctC G t ((cnC L 60 1 0 vb g).2.2.1) (nI (cnC L 60 1 0 vb g).2.1) ((cnC L 60 1 0 vb g).2.2.2) ++ X)) := by
  refine mt_of hF (by decide) (Nat.le_of_ble_eq_true rfl) ?_
  intro p e s m below meth c C hin ls hl H locs hw
  have hl : lv_has ls 2 [(0, .ref (t 0))] := hl
  refine lv_aload_n C.1 C.2.1 dX2_countCommands_0 rfl (lv_at hl 0 rfl) ?_
  refine r_vv C hw (k2_rewind hF (X := X) hT (vb := vb) (p0 := p0) (g := g)) ml_X2_51 yf_X2_rewind 2 rfl rfl (As := []) rfl rfl ⟨(Nat.le_of_ble_eq_true rfl), (Nat.le_of_ble_eq_true rfl)⟩ ⟨(Nat.le_of_ble_eq_true rfl), (Nat.le_of_ble_eq_true rfl)⟩ hl.1 (Nat.le_of_ble_eq_true rfl) dX2_countCommands_1 (fun u_1 H locs hp_1 hw => ?_)
  replace hw : WH G s (sbY G (t 1) u L ++ (ctC G t vb (nI 0) g ++ X)) H locs := hw
  refine lv_iconst (v := 1) C.1 C.2.1 dX2_countCommands_4 (by decide) ?_
  refine lv_istore_n (lv' := [(1, .int 1), (0, .ref (t 0))]) C.1 C.2.1 dX2_countCommands_5 rfl hl (by decide) rfl (fun ls hl => ?_)
  refine w_loop (σ := Nat × Nat × Nat × (Nat → Int32)) G (fun u ⟨k, q, v1, g1⟩ => k + u = 62 ∧ (1 ≤ k ∧ k ≤ 61) ∧ q ≤ L.length ∧ v1 < 7 ∧ cnC L (61 - k) k q v1 g1 = cnC L 60 1 0 vb g) (fun ⟨k, q, v1, g1⟩ => sbY G (t 1) u L ++ (ctC G t v1 (nI q) g1 ++ X)) (fun ⟨k, q, v1, g1⟩ => 0) (fun ⟨k, q, v1, g1⟩ => 0) (fun ⟨k, q, v1, g1⟩ => [(0, .ref (t 0)), (1, .int (nI k))]) 2 ?_ ?_ 61 (1, 0, vb, g) (⟨by omega, by omega, Nat.zero_le _, hvb, rfl⟩) hw (lv_sub hl [1, 0] rfl)
  · rintro n6 ⟨k, q, v1, g1⟩ ⟨h1, h2, h3, h4, h5⟩ ih6 H locs hw ls hl
    replace hw : WH G s (sbY G (t 1) u L ++ (ctC G t v1 (nI q) g1 ++ X)) H locs := hw
    replace hl : lv_has ls 2 [(0, .ref (t 0)), (1, .int (nI k))] := hl
    refine lv_iload_n C.1 C.2.1 dX2_countCommands_6 rfl (lv_at hl 1 rfl) ?_
    refine lv_bipush (v := 60) C.1 C.2.1 dX2_countCommands_7 (by decide) ?_
    refine lv_icmp_gt (tgt := 43) C.1 C.2.1 dX2_countCommands_9 (by decide) (fun c_9 => ?_) (fun c_9 => ?_)
    · have hk9 : 60 < k := (nI_ltI (a := 60) (b := k) (by decide) (by omega)).mp c_9
      refine lv_iconst (v := -1) C.1 C.2.1 dX2_countCommands_43 (by decide) ?_
      have hz : cnC L 60 1 0 vb g = (none, q, v1, g1) := by rw [← h5, show 61 - k = 0 by omega]; rfl
      exact r_iret C hw rfl rfl () (by rw [hz]; rfl) (by rw [hz]) (Nat.le_of_ble_eq_true rfl) (Nat.le_of_ble_eq_true rfl) dX2_countCommands_44
    · have hk9 : ¬ 60 < k := mt (nI_ltI (a := 60) (b := k) (by decide) (by omega)).mpr c_9
      refine lv_aload_n C.1 C.2.1 dX2_countCommands_12 rfl (lv_at hl 0 rfl) ?_
      refine r_vi C hw (k2_readCommand hF (X := X) hT hch hL (vb := v1) (p0 := q) (g := g1) h3 h4) ml_X2_54 yf_X2_readCommand 2 rfl rfl (As := []) rfl rfl ⟨(Nat.le_of_ble_eq_true rfl), (Nat.le_of_ble_eq_true rfl)⟩ ⟨(Nat.le_of_ble_eq_true rfl), (Nat.le_of_ble_eq_true rfl)⟩ hl.1 (Nat.le_of_ble_eq_true rfl) dX2_countCommands_13 (fun r_13 u_13 H locs hp_13 hw => ?_)
      obtain rfl : r_13 = bI (rcC L q v1 g1).1 := hp_13
      replace hw : WH G s (sbY G (t 1) u L ++ (ctC G t ((rcC L q v1 g1).2.2.1) (nI (rcC L q v1 g1).2.1) ((rcC L q v1 g1).2.2.2) ++ X)) H locs := hw
      have hrc := @rcC_le L q v1 g1 h3 h4
      refine lv_if_ne (tgt := 21) C.1 C.2.1 dX2_countCommands_16 (by decide) (fun c_16 => ?_) (fun c_16 => ?_)
      · have b_16 := bI_ne0.mp c_16
        refine lv_aload_n C.1 C.2.1 dX2_countCommands_21 rfl (lv_at hl 0 rfl) ?_
        refine r_get C hw 2 rfl rfl in_X2 3 (by decide) fl_X2_36 rfl (v := .int (nI (rcC L q v1 g1).2.1)) rfl dX2_countCommands_22 ?_
        refine lv_aload_n C.1 C.2.1 dX2_countCommands_25 rfl (lv_at hl 0 rfl) ?_
        refine r_get C hw 2 rfl rfl in_X2 0 (by decide) fl_X2_12 rfl (v := .ref (t 1)) rfl dX2_countCommands_26 ?_
        refine r_vi C hw (s_length hF (X := (ctC G t ((rcC L q v1 g1).2.2.1) (nI (rcC L q v1 g1).2.1) ((rcC L q v1 g1).2.2.2) ++ X)) hT) ml_X2_40 yf_J4_length_8abf5 0 rfl rfl (As := []) rfl rfl ⟨(Nat.le_of_ble_eq_true rfl), (Nat.le_of_ble_eq_true rfl)⟩ ⟨(Nat.le_of_ble_eq_true rfl), (Nat.le_of_ble_eq_true rfl)⟩ hl.1 (Nat.le_of_ble_eq_true rfl) dX2_countCommands_29 (fun r_29 u_29 H locs hp_29 hw => ?_)
        obtain rfl : r_29 = nI L.length := hp_29
        replace hw : WH G s (sbY G (t 1) u L ++ (ctC G t ((rcC L q v1 g1).2.2.1) (nI (rcC L q v1 g1).2.1) ((rcC L q v1 g1).2.2.2) ++ X)) H locs := hw
        refine lv_icmp_ne (tgt := 37) C.1 C.2.1 dX2_countCommands_32 (by decide) (fun c_32 => ?_) (fun c_32 => ?_)
        · have hne : ¬ (rcC L q v1 g1).2.1 = L.length := fun q9 => c_32 (by rw [q9])
          refine lv_iinc (v := nI (k + 1)) (lv' := [(1, .int (nI (k + 1))), (0, .ref (t 0))]) C.1 C.2.1 dX2_countCommands_37 hl (k := 1) rfl (inc_nI k) (by decide) rfl (fun ls hl => ?_)
          refine lv_goto (tgt := 6) C.1 C.2.1 dX2_countCommands_40 (by decide) ?_
          exact ih6 (k + 1, (rcC L q v1 g1).2.1, (rcC L q v1 g1).2.2.1, (rcC L q v1 g1).2.2.2) (⟨by omega, by omega, hrc.1, hrc.2, by rw [← h5, show 61 - k = (61 - (k + 1)) + 1 by omega, cnC, if_neg (by rw [b_16]; decide), if_neg hne]⟩) _ _ hw _ (lv_sub hl [1, 0] rfl)
        · have hne : (rcC L q v1 g1).2.1 = L.length := (nI_eq (by have := hrc.1; omega) (by omega)).mp c_32
          refine lv_iload_n C.1 C.2.1 dX2_countCommands_35 rfl (lv_at hl 1 rfl) ?_
          have hz : cnC L 60 1 0 vb g = (some k, (rcC L q v1 g1).2) := by rw [← h5, show 61 - k = (61 - (k + 1)) + 1 by omega, cnC, if_neg (by rw [b_16]; decide), if_pos hne]
          exact r_iret C hw rfl rfl () (by rw [hz]; rfl) (by rw [hz]) (Nat.le_of_ble_eq_true rfl) (Nat.le_of_ble_eq_true rfl) dX2_countCommands_36
      · have b_16 := bI_eq0.mp c_16
        refine lv_iconst (v := -1) C.1 C.2.1 dX2_countCommands_19 (by decide) ?_
        have hz : cnC L 60 1 0 vb g = (none, (rcC L q v1 g1).2) := by rw [← h5, show 61 - k = (61 - (k + 1)) + 1 by omega, cnC, if_pos b_16]
        exact r_iret C hw rfl rfl () (by rw [hz]; rfl) (by rw [hz]) (Nat.le_of_ble_eq_true rfl) (Nat.le_of_ble_eq_true rfl) dX2_countCommands_20
  · rintro ⟨k, q, v1, g1⟩ ⟨h1, h2, h3, h4, h5⟩; omega

