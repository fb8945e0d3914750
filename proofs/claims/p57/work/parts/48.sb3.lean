/-! A StringBuilder: digits -/
theorem dg1 {w : Nat} (h : w ≤ 9) : ∀ {t : Nat}, dgL t w = [nI (48 + w % 10)]
  | 0 => rfl
  | t + 1 => by rw [dgL, if_pos h]
theorem dg2 {w t : Nat} (h : 10 ≤ w) : dgL (t + 1) w = dgL t (w / 10) ++ [nI (48 + w % 10)] := by rw [dgL, if_neg (by omega)]
theorem dgx_1 {w : Nat} (h2 : w < 10) : dgL 4 w = [nI (48 + w % 10)] := by
  rw [dg1 (by omega)]
theorem dgx_2 {w : Nat} (h1 : 10 ≤ w) (h2 : w < 100) : dgL 4 w = [nI (48 + w / 10 % 10), nI (48 + w % 10)] := by
  rw [dg2 (by omega), dg1 (by omega)]
  simp only [List.cons_append, List.nil_append, Nat.div_div_eq_div_mul, Nat.reduceMul]
theorem dgx_3 {w : Nat} (h1 : 100 ≤ w) (h2 : w < 1000) : dgL 4 w = [nI (48 + w / 100 % 10), nI (48 + w / 10 % 10), nI (48 + w % 10)] := by
  rw [dg2 (by omega), dg2 (by omega), dg1 (by omega)]
  simp only [List.cons_append, List.nil_append, Nat.div_div_eq_div_mul, Nat.reduceMul]
theorem dgx_4 {w : Nat} (h1 : 1000 ≤ w) (h2 : w < 10000) : dgL 4 w = [nI (48 + w / 1000 % 10), nI (48 + w / 100 % 10), nI (48 + w / 10 % 10), nI (48 + w % 10)] := by
  rw [dg2 (by omega), dg2 (by omega), dg2 (by omega), dg1 (by omega)]
  simp only [List.cons_append, List.nil_append, Nat.div_div_eq_div_mul, Nat.reduceMul]
theorem dgx_5 {w : Nat} (h1 : 10000 ≤ w) (h2 : w < 100000) : dgL 4 w = [nI (48 + w / 10000 % 10), nI (48 + w / 1000 % 10), nI (48 + w / 100 % 10), nI (48 + w / 10 % 10), nI (48 + w % 10)] := by
  rw [dg2 (by omega), dg2 (by omega), dg2 (by omega), dg2 (by omega), dg1 (by omega)]
  simp only [List.cons_append, List.nil_append, Nat.div_div_eq_div_mul, Nat.reduceMul]
theorem dg_3 {w : Nat} (h1 : 100 ≤ w) (h2 : w < 10000) : 3 ≤ (dgL 4 w).length := by
  rcases Nat.lt_or_ge w 1000 with q | q
  · rw [dgx_3 h1 q]; exact (by decide : 3 ≤ 3)
  · rw [dgx_4 q h2]; exact (by decide : 3 ≤ 4)

set_option maxHeartbeats 4000000 in
set_option maxRecDepth 100000 in
theorem j6_stringSize {l : Launch} {G : Gx} (hF : SF l G) {X : va_W} {w : Nat} (hwb : w < 100000) : MI l G yJ6_stringSize_0f7a4 cJ6_stringSize_0f7a4 4 .int 0 0 0 [.int (nI w)] X (fun r (_ : Unit) => r = nI (dgL 4 w).length) (fun _ => X) := by
  refine mt_of hF (by decide) (Nat.le_of_ble_eq_true rfl) ?_
  intro p e s m below meth c C hin ls hl H locs hw
  have hl : lv_has ls 4 [(0, .int (nI w))] := hl
  refine lv_iconst (v := 1) C.1 C.2.1 dJ6_stringSize_0f7a4_0 (by decide) ?_
  refine lv_istore_n (lv' := [(1, .int 1), (0, .int (nI w))]) C.1 C.2.1 dJ6_stringSize_0f7a4_1 rfl hl (by decide) rfl (fun ls hl => ?_)
  refine lv_iload_n C.1 C.2.1 dJ6_stringSize_0f7a4_2 rfl (lv_at hl 1 rfl) ?_
  refine lv_if_lt (tgt := 11) C.1 C.2.1 dJ6_stringSize_0f7a4_3 (by decide) (fun c_3 => absurd c_3 (nI_pos (by omega))) (fun c_3 => ?_)
  refine lv_iconst (v := 0) C.1 C.2.1 dJ6_stringSize_0f7a4_6 (by decide) ?_
  refine lv_istore_n (lv' := [(1, .int 0), (0, .int (nI w))]) C.1 C.2.1 dJ6_stringSize_0f7a4_7 rfl hl (by decide) rfl (fun ls hl => ?_)
  refine lv_iload_n C.1 C.2.1 dJ6_stringSize_0f7a4_8 rfl (lv_at hl 1 rfl) ?_
  refine lv_ineg C.1 C.2.1 dJ6_stringSize_0f7a4_9 ?_
  refine lv_istore_n (lv' := [(0, .int (-(nI w))), (1, .int 0)]) C.1 C.2.1 dJ6_stringSize_0f7a4_10 rfl hl (by decide) rfl (fun ls hl => ?_)
  refine lv_bipush (v := -10) C.1 C.2.1 dJ6_stringSize_0f7a4_11 (by decide) ?_
  refine lv_istore_n (lv' := [(2, .int (-10)), (0, .int (-(nI w))), (1, .int 0)]) C.1 C.2.1 dJ6_stringSize_0f7a4_13 rfl hl (by decide) rfl (fun ls hl => ?_)
  refine lv_iconst (v := 1) C.1 C.2.1 dJ6_stringSize_0f7a4_14 (by decide) ?_
  refine lv_istore_n (lv' := [(3, .int 1), (2, .int (-10)), (0, .int (-(nI w))), (1, .int 0)]) C.1 C.2.1 dJ6_stringSize_0f7a4_15 rfl hl (by decide) rfl (fun ls hl => ?_)
  refine lv_iload_n C.1 C.2.1 dJ6_stringSize_0f7a4_16 rfl (lv_at hl 0 rfl) ?_
  refine lv_bipush (v := 10) C.1 C.2.1 dJ6_stringSize_0f7a4_17 (by decide) ?_
  refine lv_icmp_ge (tgt := 42) C.1 C.2.1 dJ6_stringSize_0f7a4_19 (by decide) (fun c_19 => absurd c_19 (by decide)) (fun c_19 => ?_)
  refine lv_iload_n C.1 C.2.1 dJ6_stringSize_0f7a4_22 rfl (lv_at hl 2 rfl) ?_
  refine lv_iload_n C.1 C.2.1 dJ6_stringSize_0f7a4_23 rfl (lv_at hl 1 rfl) ?_
  refine lv_icmp_le (tgt := 31) C.1 C.2.1 dJ6_stringSize_0f7a4_24 (by decide) (fun c_24 => ?_) (fun c_24 => ?_)
  · have hw1 : 10 ≤ w := by have q9 := c_24; rw [show ((-10) : Int32) = -nI 10 from by decide] at q9; exact (sb_nle (by omega) (by decide)).mp q9
    refine lv_bipush (v := 10) C.1 C.2.1 dJ6_stringSize_0f7a4_31 (by decide) ?_
    refine lv_iload_n C.1 C.2.1 dJ6_stringSize_0f7a4_33 rfl (lv_at hl 1 rfl) ?_
    refine lv_imul C.1 C.2.1 dJ6_stringSize_0f7a4_34 ?_
    refine lv_istore_n (lv' := [(2, .int (10 * (-10))), (3, .int 1), (0, .int (-(nI w))), (1, .int 0)]) C.1 C.2.1 dJ6_stringSize_0f7a4_35 rfl hl (by decide) rfl (fun ls hl => ?_)
    refine lv_iinc (v := 1 + 1) (lv' := [(3, .int (1 + 1)), (2, .int (10 * (-10))), (0, .int (-(nI w))), (1, .int 0)]) C.1 C.2.1 dJ6_stringSize_0f7a4_36 hl (k := 1) rfl (rfl) (by decide) rfl (fun ls hl => ?_)
    refine lv_goto (tgt := 16) C.1 C.2.1 dJ6_stringSize_0f7a4_39 (by decide) ?_
    refine lv_iload_n C.1 C.2.1 dJ6_stringSize_0f7a4_16 rfl (lv_at hl 0 rfl) ?_
    refine lv_bipush (v := 10) C.1 C.2.1 dJ6_stringSize_0f7a4_17 (by decide) ?_
    refine lv_icmp_ge (tgt := 42) C.1 C.2.1 dJ6_stringSize_0f7a4_19 (by decide) (fun c_19 => absurd c_19 (by decide)) (fun c_19 => ?_)
    refine lv_iload_n C.1 C.2.1 dJ6_stringSize_0f7a4_22 rfl (lv_at hl 2 rfl) ?_
    refine lv_iload_n C.1 C.2.1 dJ6_stringSize_0f7a4_23 rfl (lv_at hl 1 rfl) ?_
    refine lv_icmp_le (tgt := 31) C.1 C.2.1 dJ6_stringSize_0f7a4_24 (by decide) (fun c_24 => ?_) (fun c_24 => ?_)
    · have hw2 : 100 ≤ w := by have q9 := c_24; rw [show ((10 * (-10)) : Int32) = -nI 100 from by decide] at q9; exact (sb_nle (by omega) (by decide)).mp q9
      refine lv_bipush (v := 10) C.1 C.2.1 dJ6_stringSize_0f7a4_31 (by decide) ?_
      refine lv_iload_n C.1 C.2.1 dJ6_stringSize_0f7a4_33 rfl (lv_at hl 1 rfl) ?_
      refine lv_imul C.1 C.2.1 dJ6_stringSize_0f7a4_34 ?_
      refine lv_istore_n (lv' := [(2, .int (10 * (10 * (-10)))), (3, .int (1 + 1)), (0, .int (-(nI w))), (1, .int 0)]) C.1 C.2.1 dJ6_stringSize_0f7a4_35 rfl hl (by decide) rfl (fun ls hl => ?_)
      refine lv_iinc (v := (1 + 1) + 1) (lv' := [(3, .int ((1 + 1) + 1)), (2, .int (10 * (10 * (-10)))), (0, .int (-(nI w))), (1, .int 0)]) C.1 C.2.1 dJ6_stringSize_0f7a4_36 hl (k := 1) rfl (rfl) (by decide) rfl (fun ls hl => ?_)
      refine lv_goto (tgt := 16) C.1 C.2.1 dJ6_stringSize_0f7a4_39 (by decide) ?_
      refine lv_iload_n C.1 C.2.1 dJ6_stringSize_0f7a4_16 rfl (lv_at hl 0 rfl) ?_
      refine lv_bipush (v := 10) C.1 C.2.1 dJ6_stringSize_0f7a4_17 (by decide) ?_
      refine lv_icmp_ge (tgt := 42) C.1 C.2.1 dJ6_stringSize_0f7a4_19 (by decide) (fun c_19 => absurd c_19 (by decide)) (fun c_19 => ?_)
      refine lv_iload_n C.1 C.2.1 dJ6_stringSize_0f7a4_22 rfl (lv_at hl 2 rfl) ?_
      refine lv_iload_n C.1 C.2.1 dJ6_stringSize_0f7a4_23 rfl (lv_at hl 1 rfl) ?_
      refine lv_icmp_le (tgt := 31) C.1 C.2.1 dJ6_stringSize_0f7a4_24 (by decide) (fun c_24 => ?_) (fun c_24 => ?_)
      · have hw3 : 1000 ≤ w := by have q9 := c_24; rw [show ((10 * (10 * (-10))) : Int32) = -nI 1000 from by decide] at q9; exact (sb_nle (by omega) (by decide)).mp q9
        refine lv_bipush (v := 10) C.1 C.2.1 dJ6_stringSize_0f7a4_31 (by decide) ?_
        refine lv_iload_n C.1 C.2.1 dJ6_stringSize_0f7a4_33 rfl (lv_at hl 1 rfl) ?_
        refine lv_imul C.1 C.2.1 dJ6_stringSize_0f7a4_34 ?_
        refine lv_istore_n (lv' := [(2, .int (10 * (10 * (10 * (-10))))), (3, .int ((1 + 1) + 1)), (0, .int (-(nI w))), (1, .int 0)]) C.1 C.2.1 dJ6_stringSize_0f7a4_35 rfl hl (by decide) rfl (fun ls hl => ?_)
        refine lv_iinc (v := ((1 + 1) + 1) + 1) (lv' := [(3, .int (((1 + 1) + 1) + 1)), (2, .int (10 * (10 * (10 * (-10))))), (0, .int (-(nI w))), (1, .int 0)]) C.1 C.2.1 dJ6_stringSize_0f7a4_36 hl (k := 1) rfl (rfl) (by decide) rfl (fun ls hl => ?_)
        refine lv_goto (tgt := 16) C.1 C.2.1 dJ6_stringSize_0f7a4_39 (by decide) ?_
        refine lv_iload_n C.1 C.2.1 dJ6_stringSize_0f7a4_16 rfl (lv_at hl 0 rfl) ?_
        refine lv_bipush (v := 10) C.1 C.2.1 dJ6_stringSize_0f7a4_17 (by decide) ?_
        refine lv_icmp_ge (tgt := 42) C.1 C.2.1 dJ6_stringSize_0f7a4_19 (by decide) (fun c_19 => absurd c_19 (by decide)) (fun c_19 => ?_)
        refine lv_iload_n C.1 C.2.1 dJ6_stringSize_0f7a4_22 rfl (lv_at hl 2 rfl) ?_
        refine lv_iload_n C.1 C.2.1 dJ6_stringSize_0f7a4_23 rfl (lv_at hl 1 rfl) ?_
        refine lv_icmp_le (tgt := 31) C.1 C.2.1 dJ6_stringSize_0f7a4_24 (by decide) (fun c_24 => ?_) (fun c_24 => ?_)
        · have hw4 : 10000 ≤ w := by have q9 := c_24; rw [show ((10 * (10 * (10 * (-10)))) : Int32) = -nI 10000 from by decide] at q9; exact (sb_nle (by omega) (by decide)).mp q9
          refine lv_bipush (v := 10) C.1 C.2.1 dJ6_stringSize_0f7a4_31 (by decide) ?_
          refine lv_iload_n C.1 C.2.1 dJ6_stringSize_0f7a4_33 rfl (lv_at hl 1 rfl) ?_
          refine lv_imul C.1 C.2.1 dJ6_stringSize_0f7a4_34 ?_
          refine lv_istore_n (lv' := [(2, .int (10 * (10 * (10 * (10 * (-10)))))), (3, .int (((1 + 1) + 1) + 1)), (0, .int (-(nI w))), (1, .int 0)]) C.1 C.2.1 dJ6_stringSize_0f7a4_35 rfl hl (by decide) rfl (fun ls hl => ?_)
          refine lv_iinc (v := (((1 + 1) + 1) + 1) + 1) (lv' := [(3, .int ((((1 + 1) + 1) + 1) + 1)), (2, .int (10 * (10 * (10 * (10 * (-10)))))), (0, .int (-(nI w))), (1, .int 0)]) C.1 C.2.1 dJ6_stringSize_0f7a4_36 hl (k := 1) rfl (rfl) (by decide) rfl (fun ls hl => ?_)
          refine lv_goto (tgt := 16) C.1 C.2.1 dJ6_stringSize_0f7a4_39 (by decide) ?_
          refine lv_iload_n C.1 C.2.1 dJ6_stringSize_0f7a4_16 rfl (lv_at hl 0 rfl) ?_
          refine lv_bipush (v := 10) C.1 C.2.1 dJ6_stringSize_0f7a4_17 (by decide) ?_
          refine lv_icmp_ge (tgt := 42) C.1 C.2.1 dJ6_stringSize_0f7a4_19 (by decide) (fun c_19 => absurd c_19 (by decide)) (fun c_19 => ?_)
          refine lv_iload_n C.1 C.2.1 dJ6_stringSize_0f7a4_22 rfl (lv_at hl 2 rfl) ?_
          refine lv_iload_n C.1 C.2.1 dJ6_stringSize_0f7a4_23 rfl (lv_at hl 1 rfl) ?_
          refine lv_icmp_le (tgt := 31) C.1 C.2.1 dJ6_stringSize_0f7a4_24 (by decide) (fun c_24 => absurd c_24 (fun q9 => absurd ((sb_nle (a := w) (b := 100000) (by omega) (by decide)).mp (by rw [show -nI 100000 = ((10 * (10 * (10 * (10 * (-10))))) : Int32) from by decide]; exact q9)) (by omega))) (fun c_24 => ?_)
          have hwl : w < 100000 := hwb
          refine lv_iload_n C.1 C.2.1 dJ6_stringSize_0f7a4_27 rfl (lv_at hl 0 rfl) ?_
          refine lv_iload_n C.1 C.2.1 dJ6_stringSize_0f7a4_28 rfl (lv_at hl 3 rfl) ?_
          refine lv_iadd C.1 C.2.1 dJ6_stringSize_0f7a4_29 ?_
          exact r_iret C hw rfl rfl () (by rw [dgx_5 hw4 hwl]; exact (by decide : ((((((1 + 1) + 1) + 1) + 1) + 0) : Int32) = nI 5)) rfl (Nat.le_of_ble_eq_true rfl) (Nat.le_of_ble_eq_true rfl) dJ6_stringSize_0f7a4_30
        · have hwl : w < 10000 := by have q9 := mt (sb_nle (a := w) (b := 10000) (by omega) (by decide)).mpr (by rw [show -nI 10000 = ((10 * (10 * (10 * (-10)))) : Int32) from by decide]; exact c_24); omega
          refine lv_iload_n C.1 C.2.1 dJ6_stringSize_0f7a4_27 rfl (lv_at hl 0 rfl) ?_
          refine lv_iload_n C.1 C.2.1 dJ6_stringSize_0f7a4_28 rfl (lv_at hl 3 rfl) ?_
          refine lv_iadd C.1 C.2.1 dJ6_stringSize_0f7a4_29 ?_
          exact r_iret C hw rfl rfl () (by rw [dgx_4 hw3 hwl]; exact (by decide : (((((1 + 1) + 1) + 1) + 0) : Int32) = nI 4)) rfl (Nat.le_of_ble_eq_true rfl) (Nat.le_of_ble_eq_true rfl) dJ6_stringSize_0f7a4_30
      · have hwl : w < 1000 := by have q9 := mt (sb_nle (a := w) (b := 1000) (by omega) (by decide)).mpr (by rw [show -nI 1000 = ((10 * (10 * (-10))) : Int32) from by decide]; exact c_24); omega
        refine lv_iload_n C.1 C.2.1 dJ6_stringSize_0f7a4_27 rfl (lv_at hl 0 rfl) ?_
        refine lv_iload_n C.1 C.2.1 dJ6_stringSize_0f7a4_28 rfl (lv_at hl 3 rfl) ?_
        refine lv_iadd C.1 C.2.1 dJ6_stringSize_0f7a4_29 ?_
        exact r_iret C hw rfl rfl () (by rw [dgx_3 hw2 hwl]; exact (by decide : ((((1 + 1) + 1) + 0) : Int32) = nI 3)) rfl (Nat.le_of_ble_eq_true rfl) (Nat.le_of_ble_eq_true rfl) dJ6_stringSize_0f7a4_30
    · have hwl : w < 100 := by have q9 := mt (sb_nle (a := w) (b := 100) (by omega) (by decide)).mpr (by rw [show -nI 100 = ((10 * (-10)) : Int32) from by decide]; exact c_24); omega
      refine lv_iload_n C.1 C.2.1 dJ6_stringSize_0f7a4_27 rfl (lv_at hl 0 rfl) ?_
      refine lv_iload_n C.1 C.2.1 dJ6_stringSize_0f7a4_28 rfl (lv_at hl 3 rfl) ?_
      refine lv_iadd C.1 C.2.1 dJ6_stringSize_0f7a4_29 ?_
      exact r_iret C hw rfl rfl () (by rw [dgx_2 hw1 hwl]; exact (by decide : (((1 + 1) + 0) : Int32) = nI 2)) rfl (Nat.le_of_ble_eq_true rfl) (Nat.le_of_ble_eq_true rfl) dJ6_stringSize_0f7a4_30
  · have hwl : w < 10 := by have q9 := mt (sb_nle (a := w) (b := 10) (by omega) (by decide)).mpr (by rw [show -nI 10 = ((-10) : Int32) from by decide]; exact c_24); omega
    refine lv_iload_n C.1 C.2.1 dJ6_stringSize_0f7a4_27 rfl (lv_at hl 0 rfl) ?_
    refine lv_iload_n C.1 C.2.1 dJ6_stringSize_0f7a4_28 rfl (lv_at hl 3 rfl) ?_
    refine lv_iadd C.1 C.2.1 dJ6_stringSize_0f7a4_29 ?_
    exact r_iret C hw rfl rfl () (by rw [dgx_1 hwl]; exact (by decide : ((1 + 0) : Int32) = nI 1)) rfl (Nat.le_of_ble_eq_true rfl) (Nat.le_of_ble_eq_true rfl) dJ6_stringSize_0f7a4_30

/-- the signs L stand from n on, what was before them stands -/
def gcP (f f' : Nat → Int32) (n : Nat) (L : List Int32) : Prop := sb_Fit f' ∧ (∀ j, j < n → f' j = f j) ∧ ∀ i, i < L.length → f' (n + i) = L.getD i 0
set_option maxHeartbeats 4000000 in
set_option maxRecDepth 100000 in
theorem j6_getChars_0 {l : Launch} {G : Gx} (hF : SF l G) {W : (Nat → Int32) → va_W} {q1 v cp : Nat} (hR : (∀ g, (W g)[q1]? = some (v, .inl (G.2.2.1 1, cp, .inl g))) ∧ ∀ g g', (W g).set q1 (v, .inl (G.2.2.1 1, cp, .inl g')) = W g') {w n ix : Nat} {f : Nat → Int32} (hwb : w < 100) (hf : sb_Fit f) (hx : n + (dgL 4 w).length = ix) (hc : ix ≤ cp) (hc2 : cp ≤ 70) : MI l G yJ6_getChars_ba4f3 cJ6_getChars_ba4f3 7 .int 0 0 0 [.int (nI w), .int (nI ix), .ref v] (W f) (fun _ f' => gcP f f' n (dgL 4 w)) (fun f' : Nat → Int32 => W f') := by
  refine mt_of hF (by decide) (Nat.le_of_ble_eq_true rfl) ?_
  intro p e s m below meth c C hin ls hl H locs hw
  have hl : lv_has ls 7 [(0, .int (nI w)), (1, .int (nI ix)), (2, .ref v)] := hl
  obtain ⟨t_digitones, hz_digitones, ht_ones⟩ := hF.digitones
  obtain ⟨t_digittens, hz_digittens, ht_tens⟩ := hF.digittens
  have hlen := @dgL_len 4 w
  refine lv_iload_n C.1 C.2.1 dJ6_getChars_ba4f3_0 rfl (lv_at hl 1 rfl) ?_
  refine lv_istore (lv' := [(5, .int (nI ix)), (0, .int (nI w)), (1, .int (nI ix)), (2, .ref v)]) C.1 C.2.1 dJ6_getChars_ba4f3_1 hl (by decide) rfl (fun ls hl => ?_)
  refine lv_iload_n C.1 C.2.1 dJ6_getChars_ba4f3_3 rfl (lv_at hl 1 rfl) ?_
  refine lv_if_ge (tgt := 11) C.1 C.2.1 dJ6_getChars_ba4f3_4 (by decide) (fun c_4 => ?_) (fun c_4 => absurd (nI_pos' (by omega)) c_4)
  refine lv_iconst (v := 0) C.1 C.2.1 dJ6_getChars_ba4f3_11 (by decide) ?_
  refine lv_istore (lv' := [(6, .int 0), (5, .int (nI ix)), (0, .int (nI w)), (1, .int (nI ix)), (2, .ref v)]) C.1 C.2.1 dJ6_getChars_ba4f3_12 hl (by decide) rfl (fun ls hl => ?_)
  refine lv_iload C.1 C.2.1 dJ6_getChars_ba4f3_14 (lv_at hl 0 rfl) ?_
  refine lv_if_ne (tgt := 22) C.1 C.2.1 dJ6_getChars_ba4f3_16 (by decide) (fun c_16 => absurd (rfl) c_16) (fun c_16 => ?_)
  refine lv_iload_n C.1 C.2.1 dJ6_getChars_ba4f3_19 rfl (lv_at hl 2 rfl) ?_
  refine lv_ineg C.1 C.2.1 dJ6_getChars_ba4f3_20 ?_
  refine lv_istore_n (lv' := [(0, .int (-(nI w))), (6, .int 0), (5, .int (nI ix)), (1, .int (nI ix)), (2, .ref v)]) C.1 C.2.1 dJ6_getChars_ba4f3_21 rfl hl (by decide) rfl (fun ls hl => ?_)
  refine lv_iload_n C.1 C.2.1 dJ6_getChars_ba4f3_22 rfl (lv_at hl 0 rfl) ?_
  refine lv_bipush (v := -100) C.1 C.2.1 dJ6_getChars_ba4f3_23 (by decide) ?_
  refine lv_icmp_gt (tgt := 72) C.1 C.2.1 dJ6_getChars_ba4f3_25 (by decide) (fun c_25 => ?_) (fun c_25 => absurd ((sb_nlt (a := 100) (b := w) (by decide) (by omega)).mpr (by omega)) c_25)
  refine lv_aload_n C.1 C.2.1 dJ6_getChars_ba4f3_72 rfl (lv_at hl 4 rfl) ?_
  refine lv_iinc (v := nI (ix - 1)) (lv' := [(5, .int (nI (ix - 1))), (0, .int (-(nI w))), (6, .int 0), (1, .int (nI ix)), (2, .ref v)]) C.1 C.2.1 dJ6_getChars_ba4f3_73 hl (k := 2) rfl (dec_nI (by omega)) (by decide) rfl (fun ls hl => ?_)
  refine lv_iload C.1 C.2.1 dJ6_getChars_ba4f3_76 (lv_at hl 0 rfl) ?_
  refine r_dig C hw hz_digitones fl_J6_83 dJ6_getChars_ba4f3_78 ?_
  refine lv_iload_n C.1 C.2.1 dJ6_getChars_ba4f3_81 rfl (lv_at hl 1 rfl) ?_
  refine lv_ineg C.1 C.2.1 dJ6_getChars_ba4f3_82 ?_
  refine r_toe (show _ = nI w from Int32.neg_neg) ?_
  refine r_tb C hw ht_ones (i := w) (by omega) (by omega) dJ6_getChars_ba4f3_83 ?_
  refine r_bast C hw q1 (hR.1 _) (vp_in_nI (n := (ix - 1)) (by omega) (by omega)) (w' := W (upd f (ix - 1) (nI (48 + w % 10)))) (by rw [show (nI (ix - 1)).toNatClampNeg = (ix - 1) from nI_clamp (by omega), show vp_nar .byte (nI (48 + w % 10)) = (nI (48 + w % 10)) from vb_nI (by omega)]; exact hR.2 _ _) dJ6_getChars_ba4f3_84 (fun H locs hw => ?_)
  refine lv_iload_n C.1 C.2.1 dJ6_getChars_ba4f3_85 rfl (lv_at hl 1 rfl) ?_
  refine lv_bipush (v := -9) C.1 C.2.1 dJ6_getChars_ba4f3_86 (by decide) ?_
  refine lv_icmp_ge (tgt := 104) C.1 C.2.1 dJ6_getChars_ba4f3_88 (by decide) (fun c_88 => ?_) (fun c_88 => ?_)
  · have h88 : w ≤ 9 := by have q9 := (sb_nle (a := 9) (b := w) (by decide) (by omega)).mp c_88; omega
    have hLn : (dgL 4 w).length = 1 := by rw [dgx_1 (by omega)]; rfl
    refine lv_iload C.1 C.2.1 dJ6_getChars_ba4f3_104 (lv_at hl 2 rfl) ?_
    refine lv_if_eq (tgt := 118) C.1 C.2.1 dJ6_getChars_ba4f3_106 (by decide) (fun c_106 => ?_) (fun c_106 => absurd (rfl) c_106)
    refine lv_iload C.1 C.2.1 dJ6_getChars_ba4f3_118 (lv_at hl 0 rfl) ?_
    have hL : dgL 4 w = [nI (48 + w % 10)] := dgx_1 (by omega)
    have hix : ix = n + 1 := by rw [hL] at hx; simpa using hx.symm
    have hp : gcP f (upd f (ix - 1) (nI (48 + w % 10))) n (dgL 4 w) := by
      rw [hL]
      refine ⟨(sb_fitU hf (fb_nI (by omega))), fun j hj => by rw [pk_un (by omega)], fun i hi => ?_⟩
      match i, hi with
      | 0, _ => rw [show n + 0 = (ix - 1) by omega, pk_us]; show nI (48 + w % 10) = nI (48 + w % 10); first | rfl | (congr 1; omega)
      | i + 1, hi => exact absurd hi (by simp)
    exact r_iret C hw rfl rfl (upd f (ix - 1) (nI (48 + w % 10))) (hp) rfl (Nat.le_of_ble_eq_true rfl) (Nat.le_of_ble_eq_true rfl) dJ6_getChars_ba4f3_120
  · have h88 : 10 ≤ w := by have q9 := mt (sb_nle (a := 9) (b := w) (by decide) (by omega)).mpr c_88; omega
    have hLn : (dgL 4 w).length = 2 := by rw [dgx_2 (by omega) (by omega)]; rfl
    refine lv_aload_n C.1 C.2.1 dJ6_getChars_ba4f3_91 rfl (lv_at hl 4 rfl) ?_
    refine lv_iinc (v := nI ((ix - 1) - 1)) (lv' := [(5, .int (nI ((ix - 1) - 1))), (0, .int (-(nI w))), (6, .int 0), (1, .int (nI ix)), (2, .ref v)]) C.1 C.2.1 dJ6_getChars_ba4f3_92 hl (k := 0) rfl (dec_nI (by omega)) (by decide) rfl (fun ls hl => ?_)
    refine lv_iload C.1 C.2.1 dJ6_getChars_ba4f3_95 (lv_at hl 0 rfl) ?_
    refine r_dig C hw hz_digittens fl_J6_87 dJ6_getChars_ba4f3_97 ?_
    refine lv_iload_n C.1 C.2.1 dJ6_getChars_ba4f3_100 rfl (lv_at hl 1 rfl) ?_
    refine lv_ineg C.1 C.2.1 dJ6_getChars_ba4f3_101 ?_
    refine r_toe (show _ = nI w from Int32.neg_neg) ?_
    refine r_tb C hw ht_tens (i := w) (by omega) (by omega) dJ6_getChars_ba4f3_102 ?_
    refine r_bast C hw q1 (hR.1 _) (vp_in_nI (n := ((ix - 1) - 1)) (by omega) (by omega)) (w' := W (upd (upd f (ix - 1) (nI (48 + w % 10))) ((ix - 1) - 1) (nI (48 + w / 10)))) (by rw [show (nI ((ix - 1) - 1)).toNatClampNeg = ((ix - 1) - 1) from nI_clamp (by omega), show vp_nar .byte (nI (48 + w / 10)) = (nI (48 + w / 10)) from vb_nI (by omega)]; exact hR.2 _ _) dJ6_getChars_ba4f3_103 (fun H locs hw => ?_)
    refine lv_iload C.1 C.2.1 dJ6_getChars_ba4f3_104 (lv_at hl 2 rfl) ?_
    refine lv_if_eq (tgt := 118) C.1 C.2.1 dJ6_getChars_ba4f3_106 (by decide) (fun c_106 => ?_) (fun c_106 => absurd (rfl) c_106)
    refine lv_iload C.1 C.2.1 dJ6_getChars_ba4f3_118 (lv_at hl 0 rfl) ?_
    have hL : dgL 4 w = [nI (48 + w / 10 % 10), nI (48 + w % 10)] := dgx_2 (by omega) (by omega)
    have hix : ix = n + 2 := by rw [hL] at hx; simpa using hx.symm
    have hp : gcP f (upd (upd f (ix - 1) (nI (48 + w % 10))) ((ix - 1) - 1) (nI (48 + w / 10))) n (dgL 4 w) := by
      rw [hL]
      refine ⟨(sb_fitU (sb_fitU hf (fb_nI (by omega))) (fb_nI (by omega))), fun j hj => by rw [pk_un (by omega), pk_un (by omega)], fun i hi => ?_⟩
      match i, hi with
      | 0, _ => rw [show n + 0 = ((ix - 1) - 1) by omega, pk_us]; show nI (48 + w / 10) = nI (48 + w / 10 % 10); first | rfl | (congr 1; omega)
      | 1, _ => rw [pk_un (by omega), show n + 1 = (ix - 1) by omega, pk_us]; show nI (48 + w % 10) = nI (48 + w % 10); first | rfl | (congr 1; omega)
      | i + 2, hi => exact absurd hi (by simp)
    exact r_iret C hw rfl rfl (upd (upd f (ix - 1) (nI (48 + w % 10))) ((ix - 1) - 1) (nI (48 + w / 10))) (hp) rfl (Nat.le_of_ble_eq_true rfl) (Nat.le_of_ble_eq_true rfl) dJ6_getChars_ba4f3_120

set_option maxHeartbeats 4000000 in
set_option maxRecDepth 100000 in
theorem j6_getChars_1 {l : Launch} {G : Gx} (hF : SF l G) {W : (Nat → Int32) → va_W} {q1 v cp : Nat} (hR : (∀ g, (W g)[q1]? = some (v, .inl (G.2.2.1 1, cp, .inl g))) ∧ ∀ g g', (W g).set q1 (v, .inl (G.2.2.1 1, cp, .inl g')) = W g') {w n ix : Nat} {f : Nat → Int32} (hwl : 100 ≤ w) (hwb : w < 10000) (hf : sb_Fit f) (hx : n + (dgL 4 w).length = ix) (hc : ix ≤ cp) (hc2 : cp ≤ 70) : MI l G yJ6_getChars_ba4f3 cJ6_getChars_ba4f3 7 .int 0 0 0 [.int (nI w), .int (nI ix), .ref v] (W f) (fun _ f' => gcP f f' n (dgL 4 w)) (fun f' : Nat → Int32 => W f') := by
  refine mt_of hF (by decide) (Nat.le_of_ble_eq_true rfl) ?_
  intro p e s m below meth c C hin ls hl H locs hw
  have hl : lv_has ls 7 [(0, .int (nI w)), (1, .int (nI ix)), (2, .ref v)] := hl
  obtain ⟨t_digitones, hz_digitones, ht_ones⟩ := hF.digitones
  obtain ⟨t_digittens, hz_digittens, ht_tens⟩ := hF.digittens
  have hlen := @dgL_len 4 w
  have hge : 3 ≤ (dgL 4 w).length := dg_3 hwl (by omega)
  refine lv_iload_n C.1 C.2.1 dJ6_getChars_ba4f3_0 rfl (lv_at hl 1 rfl) ?_
  refine lv_istore (lv' := [(5, .int (nI ix)), (0, .int (nI w)), (1, .int (nI ix)), (2, .ref v)]) C.1 C.2.1 dJ6_getChars_ba4f3_1 hl (by decide) rfl (fun ls hl => ?_)
  refine lv_iload_n C.1 C.2.1 dJ6_getChars_ba4f3_3 rfl (lv_at hl 1 rfl) ?_
  refine lv_if_ge (tgt := 11) C.1 C.2.1 dJ6_getChars_ba4f3_4 (by decide) (fun c_4 => ?_) (fun c_4 => absurd (nI_pos' (by omega)) c_4)
  refine lv_iconst (v := 0) C.1 C.2.1 dJ6_getChars_ba4f3_11 (by decide) ?_
  refine lv_istore (lv' := [(6, .int 0), (5, .int (nI ix)), (0, .int (nI w)), (1, .int (nI ix)), (2, .ref v)]) C.1 C.2.1 dJ6_getChars_ba4f3_12 hl (by decide) rfl (fun ls hl => ?_)
  refine lv_iload C.1 C.2.1 dJ6_getChars_ba4f3_14 (lv_at hl 0 rfl) ?_
  refine lv_if_ne (tgt := 22) C.1 C.2.1 dJ6_getChars_ba4f3_16 (by decide) (fun c_16 => absurd (rfl) c_16) (fun c_16 => ?_)
  refine lv_iload_n C.1 C.2.1 dJ6_getChars_ba4f3_19 rfl (lv_at hl 2 rfl) ?_
  refine lv_ineg C.1 C.2.1 dJ6_getChars_ba4f3_20 ?_
  refine lv_istore_n (lv' := [(0, .int (-(nI w))), (6, .int 0), (5, .int (nI ix)), (1, .int (nI ix)), (2, .ref v)]) C.1 C.2.1 dJ6_getChars_ba4f3_21 rfl hl (by decide) rfl (fun ls hl => ?_)
  refine lv_iload_n C.1 C.2.1 dJ6_getChars_ba4f3_22 rfl (lv_at hl 0 rfl) ?_
  refine lv_bipush (v := -100) C.1 C.2.1 dJ6_getChars_ba4f3_23 (by decide) ?_
  refine lv_icmp_gt (tgt := 72) C.1 C.2.1 dJ6_getChars_ba4f3_25 (by decide) (fun c_25 => absurd c_25 (fun q9 => absurd ((sb_nlt (a := 100) (b := w) (by decide) (by omega)).mp q9) (by omega))) (fun c_25 => ?_)
  refine lv_iload_n C.1 C.2.1 dJ6_getChars_ba4f3_28 rfl (lv_at hl 0 rfl) ?_
  refine lv_bipush (v := 100) C.1 C.2.1 dJ6_getChars_ba4f3_29 (by decide) ?_
  refine lv_idiv C.1 C.2.1 dJ6_getChars_ba4f3_31 (by decide) ?_
  refine r_toe (show _ = -nI (w / 100) from sb_ndiv (by omega)) ?_
  refine lv_istore_n (lv' := [(3, .int (-nI (w / 100))), (0, .int (-(nI w))), (6, .int 0), (5, .int (nI ix)), (1, .int (nI ix)), (2, .ref v)]) C.1 C.2.1 dJ6_getChars_ba4f3_32 rfl hl (by decide) rfl (fun ls hl => ?_)
  refine lv_iload_n C.1 C.2.1 dJ6_getChars_ba4f3_33 rfl (lv_at hl 0 rfl) ?_
  refine lv_bipush (v := 100) C.1 C.2.1 dJ6_getChars_ba4f3_34 (by decide) ?_
  refine lv_imul C.1 C.2.1 dJ6_getChars_ba4f3_36 ?_
  refine lv_iload_n C.1 C.2.1 dJ6_getChars_ba4f3_37 rfl (lv_at hl 1 rfl) ?_
  refine lv_isub C.1 C.2.1 dJ6_getChars_ba4f3_38 ?_
  refine r_toe (show _ = nI (w % 100) from sb_nrem (by omega)) ?_
  refine lv_istore (lv' := [(4, .int (nI (w % 100))), (3, .int (-nI (w / 100))), (0, .int (-(nI w))), (6, .int 0), (5, .int (nI ix)), (1, .int (nI ix)), (2, .ref v)]) C.1 C.2.1 dJ6_getChars_ba4f3_39 hl (by decide) rfl (fun ls hl => ?_)
  refine lv_iload_n C.1 C.2.1 dJ6_getChars_ba4f3_41 rfl (lv_at hl 1 rfl) ?_
  refine lv_istore_n (lv' := [(0, .int (-nI (w / 100))), (4, .int (nI (w % 100))), (3, .int (-nI (w / 100))), (6, .int 0), (5, .int (nI ix)), (1, .int (nI ix)), (2, .ref v)]) C.1 C.2.1 dJ6_getChars_ba4f3_42 rfl hl (by decide) rfl (fun ls hl => ?_)
  refine lv_aload_n C.1 C.2.1 dJ6_getChars_ba4f3_43 rfl (lv_at hl 6 rfl) ?_
  refine lv_iinc (v := nI (ix - 1)) (lv' := [(5, .int (nI (ix - 1))), (0, .int (-nI (w / 100))), (4, .int (nI (w % 100))), (3, .int (-nI (w / 100))), (6, .int 0), (1, .int (nI ix)), (2, .ref v)]) C.1 C.2.1 dJ6_getChars_ba4f3_44 hl (k := 4) rfl (dec_nI (by omega)) (by decide) rfl (fun ls hl => ?_)
  refine lv_iload C.1 C.2.1 dJ6_getChars_ba4f3_47 (lv_at hl 0 rfl) ?_
  refine r_dig C hw hz_digitones fl_J6_83 dJ6_getChars_ba4f3_49 ?_
  refine lv_iload C.1 C.2.1 dJ6_getChars_ba4f3_52 (lv_at hl 2 rfl) ?_
  refine r_tb C hw ht_ones (i := (w % 100)) (by omega) (by omega) dJ6_getChars_ba4f3_54 ?_
  refine r_bast C hw q1 (hR.1 _) (vp_in_nI (n := (ix - 1)) (by omega) (by omega)) (w' := W (upd f (ix - 1) (nI (48 + (w % 100) % 10)))) (by rw [show (nI (ix - 1)).toNatClampNeg = (ix - 1) from nI_clamp (by omega), show vp_nar .byte (nI (48 + (w % 100) % 10)) = (nI (48 + (w % 100) % 10)) from vb_nI (by omega)]; exact hR.2 _ _) dJ6_getChars_ba4f3_55 (fun H locs hw => ?_)
  refine lv_aload_n C.1 C.2.1 dJ6_getChars_ba4f3_56 rfl (lv_at hl 6 rfl) ?_
  refine lv_iinc (v := nI ((ix - 1) - 1)) (lv' := [(5, .int (nI ((ix - 1) - 1))), (0, .int (-nI (w / 100))), (4, .int (nI (w % 100))), (3, .int (-nI (w / 100))), (6, .int 0), (1, .int (nI ix)), (2, .ref v)]) C.1 C.2.1 dJ6_getChars_ba4f3_57 hl (k := 0) rfl (dec_nI (by omega)) (by decide) rfl (fun ls hl => ?_)
  refine lv_iload C.1 C.2.1 dJ6_getChars_ba4f3_60 (lv_at hl 0 rfl) ?_
  refine r_dig C hw hz_digittens fl_J6_87 dJ6_getChars_ba4f3_62 ?_
  refine lv_iload C.1 C.2.1 dJ6_getChars_ba4f3_65 (lv_at hl 2 rfl) ?_
  refine r_tb C hw ht_tens (i := (w % 100)) (by omega) (by omega) dJ6_getChars_ba4f3_67 ?_
  refine r_bast C hw q1 (hR.1 _) (vp_in_nI (n := ((ix - 1) - 1)) (by omega) (by omega)) (w' := W (upd (upd f (ix - 1) (nI (48 + (w % 100) % 10))) ((ix - 1) - 1) (nI (48 + (w % 100) / 10)))) (by rw [show (nI ((ix - 1) - 1)).toNatClampNeg = ((ix - 1) - 1) from nI_clamp (by omega), show vp_nar .byte (nI (48 + (w % 100) / 10)) = (nI (48 + (w % 100) / 10)) from vb_nI (by omega)]; exact hR.2 _ _) dJ6_getChars_ba4f3_68 (fun H locs hw => ?_)
  refine lv_goto (tgt := 22) C.1 C.2.1 dJ6_getChars_ba4f3_69 (by decide) ?_
  refine lv_iload_n C.1 C.2.1 dJ6_getChars_ba4f3_22 rfl (lv_at hl 1 rfl) ?_
  refine lv_bipush (v := -100) C.1 C.2.1 dJ6_getChars_ba4f3_23 (by decide) ?_
  refine lv_icmp_gt (tgt := 72) C.1 C.2.1 dJ6_getChars_ba4f3_25 (by decide) (fun c_25 => ?_) (fun c_25 => absurd ((sb_nlt (a := 100) (b := (w / 100)) (by decide) (by omega)).mpr (by omega)) c_25)
  refine lv_aload_n C.1 C.2.1 dJ6_getChars_ba4f3_72 rfl (lv_at hl 6 rfl) ?_
  refine lv_iinc (v := nI (((ix - 1) - 1) - 1)) (lv' := [(5, .int (nI (((ix - 1) - 1) - 1))), (0, .int (-nI (w / 100))), (4, .int (nI (w % 100))), (3, .int (-nI (w / 100))), (6, .int 0), (1, .int (nI ix)), (2, .ref v)]) C.1 C.2.1 dJ6_getChars_ba4f3_73 hl (k := 0) rfl (dec_nI (by omega)) (by decide) rfl (fun ls hl => ?_)
  refine lv_iload C.1 C.2.1 dJ6_getChars_ba4f3_76 (lv_at hl 0 rfl) ?_
  refine r_dig C hw hz_digitones fl_J6_83 dJ6_getChars_ba4f3_78 ?_
  refine lv_iload_n C.1 C.2.1 dJ6_getChars_ba4f3_81 rfl (lv_at hl 1 rfl) ?_
  refine lv_ineg C.1 C.2.1 dJ6_getChars_ba4f3_82 ?_
  refine r_toe (show _ = nI (w / 100) from Int32.neg_neg) ?_
  refine r_tb C hw ht_ones (i := (w / 100)) (by omega) (by omega) dJ6_getChars_ba4f3_83 ?_
  refine r_bast C hw q1 (hR.1 _) (vp_in_nI (n := (((ix - 1) - 1) - 1)) (by omega) (by omega)) (w' := W (upd (upd (upd f (ix - 1) (nI (48 + (w % 100) % 10))) ((ix - 1) - 1) (nI (48 + (w % 100) / 10))) (((ix - 1) - 1) - 1) (nI (48 + (w / 100) % 10)))) (by rw [show (nI (((ix - 1) - 1) - 1)).toNatClampNeg = (((ix - 1) - 1) - 1) from nI_clamp (by omega), show vp_nar .byte (nI (48 + (w / 100) % 10)) = (nI (48 + (w / 100) % 10)) from vb_nI (by omega)]; exact hR.2 _ _) dJ6_getChars_ba4f3_84 (fun H locs hw => ?_)
  refine lv_iload_n C.1 C.2.1 dJ6_getChars_ba4f3_85 rfl (lv_at hl 1 rfl) ?_
  refine lv_bipush (v := -9) C.1 C.2.1 dJ6_getChars_ba4f3_86 (by decide) ?_
  refine lv_icmp_ge (tgt := 104) C.1 C.2.1 dJ6_getChars_ba4f3_88 (by decide) (fun c_88 => ?_) (fun c_88 => ?_)
  · have h88 : (w / 100) ≤ 9 := by have q9 := (sb_nle (a := 9) (b := (w / 100)) (by decide) (by omega)).mp c_88; omega
    have hLn : (dgL 4 w).length = 3 := by rw [dgx_3 (by omega) (by omega)]; rfl
    refine lv_iload C.1 C.2.1 dJ6_getChars_ba4f3_104 (lv_at hl 4 rfl) ?_
    refine lv_if_eq (tgt := 118) C.1 C.2.1 dJ6_getChars_ba4f3_106 (by decide) (fun c_106 => ?_) (fun c_106 => absurd (rfl) c_106)
    refine lv_iload C.1 C.2.1 dJ6_getChars_ba4f3_118 (lv_at hl 0 rfl) ?_
    have hL : dgL 4 w = [nI (48 + w / 100 % 10), nI (48 + w / 10 % 10), nI (48 + w % 10)] := dgx_3 (by omega) (by omega)
    have hix : ix = n + 3 := by rw [hL] at hx; simpa using hx.symm
    have hp : gcP f (upd (upd (upd f (ix - 1) (nI (48 + (w % 100) % 10))) ((ix - 1) - 1) (nI (48 + (w % 100) / 10))) (((ix - 1) - 1) - 1) (nI (48 + (w / 100) % 10))) n (dgL 4 w) := by
      rw [hL]
      refine ⟨(sb_fitU (sb_fitU (sb_fitU hf (fb_nI (by omega))) (fb_nI (by omega))) (fb_nI (by omega))), fun j hj => by rw [pk_un (by omega), pk_un (by omega), pk_un (by omega)], fun i hi => ?_⟩
      match i, hi with
      | 0, _ => rw [show n + 0 = (((ix - 1) - 1) - 1) by omega, pk_us]; show nI (48 + (w / 100) % 10) = nI (48 + w / 100 % 10); first | rfl | (congr 1; omega)
      | 1, _ => rw [pk_un (by omega), show n + 1 = ((ix - 1) - 1) by omega, pk_us]; show nI (48 + (w % 100) / 10) = nI (48 + w / 10 % 10); first | rfl | (congr 1; omega)
      | 2, _ => rw [pk_un (by omega), pk_un (by omega), show n + 2 = (ix - 1) by omega, pk_us]; show nI (48 + (w % 100) % 10) = nI (48 + w % 10); first | rfl | (congr 1; omega)
      | i + 3, hi => exact absurd hi (by simp)
    exact r_iret C hw rfl rfl (upd (upd (upd f (ix - 1) (nI (48 + (w % 100) % 10))) ((ix - 1) - 1) (nI (48 + (w % 100) / 10))) (((ix - 1) - 1) - 1) (nI (48 + (w / 100) % 10))) (hp) rfl (Nat.le_of_ble_eq_true rfl) (Nat.le_of_ble_eq_true rfl) dJ6_getChars_ba4f3_120
  · have h88 : 10 ≤ (w / 100) := by have q9 := mt (sb_nle (a := 9) (b := (w / 100)) (by decide) (by omega)).mpr c_88; omega
    have hLn : (dgL 4 w).length = 4 := by rw [dgx_4 (by omega) (by omega)]; rfl
    refine lv_aload_n C.1 C.2.1 dJ6_getChars_ba4f3_91 rfl (lv_at hl 6 rfl) ?_
    refine lv_iinc (v := nI ((((ix - 1) - 1) - 1) - 1)) (lv' := [(5, .int (nI ((((ix - 1) - 1) - 1) - 1))), (0, .int (-nI (w / 100))), (4, .int (nI (w % 100))), (3, .int (-nI (w / 100))), (6, .int 0), (1, .int (nI ix)), (2, .ref v)]) C.1 C.2.1 dJ6_getChars_ba4f3_92 hl (k := 0) rfl (dec_nI (by omega)) (by decide) rfl (fun ls hl => ?_)
    refine lv_iload C.1 C.2.1 dJ6_getChars_ba4f3_95 (lv_at hl 0 rfl) ?_
    refine r_dig C hw hz_digittens fl_J6_87 dJ6_getChars_ba4f3_97 ?_
    refine lv_iload_n C.1 C.2.1 dJ6_getChars_ba4f3_100 rfl (lv_at hl 1 rfl) ?_
    refine lv_ineg C.1 C.2.1 dJ6_getChars_ba4f3_101 ?_
    refine r_toe (show _ = nI (w / 100) from Int32.neg_neg) ?_
    refine r_tb C hw ht_tens (i := (w / 100)) (by omega) (by omega) dJ6_getChars_ba4f3_102 ?_
    refine r_bast C hw q1 (hR.1 _) (vp_in_nI (n := ((((ix - 1) - 1) - 1) - 1)) (by omega) (by omega)) (w' := W (upd (upd (upd (upd f (ix - 1) (nI (48 + (w % 100) % 10))) ((ix - 1) - 1) (nI (48 + (w % 100) / 10))) (((ix - 1) - 1) - 1) (nI (48 + (w / 100) % 10))) ((((ix - 1) - 1) - 1) - 1) (nI (48 + (w / 100) / 10)))) (by rw [show (nI ((((ix - 1) - 1) - 1) - 1)).toNatClampNeg = ((((ix - 1) - 1) - 1) - 1) from nI_clamp (by omega), show vp_nar .byte (nI (48 + (w / 100) / 10)) = (nI (48 + (w / 100) / 10)) from vb_nI (by omega)]; exact hR.2 _ _) dJ6_getChars_ba4f3_103 (fun H locs hw => ?_)
    refine lv_iload C.1 C.2.1 dJ6_getChars_ba4f3_104 (lv_at hl 4 rfl) ?_
    refine lv_if_eq (tgt := 118) C.1 C.2.1 dJ6_getChars_ba4f3_106 (by decide) (fun c_106 => ?_) (fun c_106 => absurd (rfl) c_106)
    refine lv_iload C.1 C.2.1 dJ6_getChars_ba4f3_118 (lv_at hl 0 rfl) ?_
    have hL : dgL 4 w = [nI (48 + w / 1000 % 10), nI (48 + w / 100 % 10), nI (48 + w / 10 % 10), nI (48 + w % 10)] := dgx_4 (by omega) (by omega)
    have hix : ix = n + 4 := by rw [hL] at hx; simpa using hx.symm
    have hp : gcP f (upd (upd (upd (upd f (ix - 1) (nI (48 + (w % 100) % 10))) ((ix - 1) - 1) (nI (48 + (w % 100) / 10))) (((ix - 1) - 1) - 1) (nI (48 + (w / 100) % 10))) ((((ix - 1) - 1) - 1) - 1) (nI (48 + (w / 100) / 10))) n (dgL 4 w) := by
      rw [hL]
      refine ⟨(sb_fitU (sb_fitU (sb_fitU (sb_fitU hf (fb_nI (by omega))) (fb_nI (by omega))) (fb_nI (by omega))) (fb_nI (by omega))), fun j hj => by rw [pk_un (by omega), pk_un (by omega), pk_un (by omega), pk_un (by omega)], fun i hi => ?_⟩
      match i, hi with
      | 0, _ => rw [show n + 0 = ((((ix - 1) - 1) - 1) - 1) by omega, pk_us]; show nI (48 + (w / 100) / 10) = nI (48 + w / 1000 % 10); first | rfl | (congr 1; omega)
      | 1, _ => rw [pk_un (by omega), show n + 1 = (((ix - 1) - 1) - 1) by omega, pk_us]; show nI (48 + (w / 100) % 10) = nI (48 + w / 100 % 10); first | rfl | (congr 1; omega)
      | 2, _ => rw [pk_un (by omega), pk_un (by omega), show n + 2 = ((ix - 1) - 1) by omega, pk_us]; show nI (48 + (w % 100) / 10) = nI (48 + w / 10 % 10); first | rfl | (congr 1; omega)
      | 3, _ => rw [pk_un (by omega), pk_un (by omega), pk_un (by omega), show n + 3 = (ix - 1) by omega, pk_us]; show nI (48 + (w % 100) % 10) = nI (48 + w % 10); first | rfl | (congr 1; omega)
      | i + 4, hi => exact absurd hi (by simp)
    exact r_iret C hw rfl rfl (upd (upd (upd (upd f (ix - 1) (nI (48 + (w % 100) % 10))) ((ix - 1) - 1) (nI (48 + (w % 100) / 10))) (((ix - 1) - 1) - 1) (nI (48 + (w / 100) % 10))) ((((ix - 1) - 1) - 1) - 1) (nI (48 + (w / 100) / 10))) (hp) rfl (Nat.le_of_ble_eq_true rfl) (Nat.le_of_ble_eq_true rfl) dJ6_getChars_ba4f3_120

set_option maxHeartbeats 4000000 in
set_option maxRecDepth 100000 in
theorem j6_getChars_2 {l : Launch} {G : Gx} (hF : SF l G) {W : (Nat → Int32) → va_W} {q1 v cp : Nat} (hR : (∀ g, (W g)[q1]? = some (v, .inl (G.2.2.1 1, cp, .inl g))) ∧ ∀ g g', (W g).set q1 (v, .inl (G.2.2.1 1, cp, .inl g')) = W g') {w n ix : Nat} {f : Nat → Int32} (hwl : 10000 ≤ w) (hwb : w < 100000) (hf : sb_Fit f) (hx : n + (dgL 4 w).length = ix) (hc : ix ≤ cp) (hc2 : cp ≤ 70) : MI l G yJ6_getChars_ba4f3 cJ6_getChars_ba4f3 7 .int 0 0 0 [.int (nI w), .int (nI ix), .ref v] (W f) (fun _ f' => gcP f f' n (dgL 4 w)) (fun f' : Nat → Int32 => W f') := by
  refine mt_of hF (by decide) (Nat.le_of_ble_eq_true rfl) ?_
  intro p e s m below meth c C hin ls hl H locs hw
  have hl : lv_has ls 7 [(0, .int (nI w)), (1, .int (nI ix)), (2, .ref v)] := hl
  obtain ⟨t_digitones, hz_digitones, ht_ones⟩ := hF.digitones
  obtain ⟨t_digittens, hz_digittens, ht_tens⟩ := hF.digittens
  have hlen := @dgL_len 4 w
  have hge : 5 ≤ (dgL 4 w).length := by rw [dgx_5 hwl hwb]; exact (by decide : 5 ≤ 5)
  refine lv_iload_n C.1 C.2.1 dJ6_getChars_ba4f3_0 rfl (lv_at hl 1 rfl) ?_
  refine lv_istore (lv' := [(5, .int (nI ix)), (0, .int (nI w)), (1, .int (nI ix)), (2, .ref v)]) C.1 C.2.1 dJ6_getChars_ba4f3_1 hl (by decide) rfl (fun ls hl => ?_)
  refine lv_iload_n C.1 C.2.1 dJ6_getChars_ba4f3_3 rfl (lv_at hl 1 rfl) ?_
  refine lv_if_ge (tgt := 11) C.1 C.2.1 dJ6_getChars_ba4f3_4 (by decide) (fun c_4 => ?_) (fun c_4 => absurd (nI_pos' (by omega)) c_4)
  refine lv_iconst (v := 0) C.1 C.2.1 dJ6_getChars_ba4f3_11 (by decide) ?_
  refine lv_istore (lv' := [(6, .int 0), (5, .int (nI ix)), (0, .int (nI w)), (1, .int (nI ix)), (2, .ref v)]) C.1 C.2.1 dJ6_getChars_ba4f3_12 hl (by decide) rfl (fun ls hl => ?_)
  refine lv_iload C.1 C.2.1 dJ6_getChars_ba4f3_14 (lv_at hl 0 rfl) ?_
  refine lv_if_ne (tgt := 22) C.1 C.2.1 dJ6_getChars_ba4f3_16 (by decide) (fun c_16 => absurd (rfl) c_16) (fun c_16 => ?_)
  refine lv_iload_n C.1 C.2.1 dJ6_getChars_ba4f3_19 rfl (lv_at hl 2 rfl) ?_
  refine lv_ineg C.1 C.2.1 dJ6_getChars_ba4f3_20 ?_
  refine lv_istore_n (lv' := [(0, .int (-(nI w))), (6, .int 0), (5, .int (nI ix)), (1, .int (nI ix)), (2, .ref v)]) C.1 C.2.1 dJ6_getChars_ba4f3_21 rfl hl (by decide) rfl (fun ls hl => ?_)
  refine lv_iload_n C.1 C.2.1 dJ6_getChars_ba4f3_22 rfl (lv_at hl 0 rfl) ?_
  refine lv_bipush (v := -100) C.1 C.2.1 dJ6_getChars_ba4f3_23 (by decide) ?_
  refine lv_icmp_gt (tgt := 72) C.1 C.2.1 dJ6_getChars_ba4f3_25 (by decide) (fun c_25 => absurd c_25 (fun q9 => absurd ((sb_nlt (a := 100) (b := w) (by decide) (by omega)).mp q9) (by omega))) (fun c_25 => ?_)
  refine lv_iload_n C.1 C.2.1 dJ6_getChars_ba4f3_28 rfl (lv_at hl 0 rfl) ?_
  refine lv_bipush (v := 100) C.1 C.2.1 dJ6_getChars_ba4f3_29 (by decide) ?_
  refine lv_idiv C.1 C.2.1 dJ6_getChars_ba4f3_31 (by decide) ?_
  refine r_toe (show _ = -nI (w / 100) from sb_ndiv (by omega)) ?_
  refine lv_istore_n (lv' := [(3, .int (-nI (w / 100))), (0, .int (-(nI w))), (6, .int 0), (5, .int (nI ix)), (1, .int (nI ix)), (2, .ref v)]) C.1 C.2.1 dJ6_getChars_ba4f3_32 rfl hl (by decide) rfl (fun ls hl => ?_)
  refine lv_iload_n C.1 C.2.1 dJ6_getChars_ba4f3_33 rfl (lv_at hl 0 rfl) ?_
  refine lv_bipush (v := 100) C.1 C.2.1 dJ6_getChars_ba4f3_34 (by decide) ?_
  refine lv_imul C.1 C.2.1 dJ6_getChars_ba4f3_36 ?_
  refine lv_iload_n C.1 C.2.1 dJ6_getChars_ba4f3_37 rfl (lv_at hl 1 rfl) ?_
  refine lv_isub C.1 C.2.1 dJ6_getChars_ba4f3_38 ?_
  refine r_toe (show _ = nI (w % 100) from sb_nrem (by omega)) ?_
  refine lv_istore (lv' := [(4, .int (nI (w % 100))), (3, .int (-nI (w / 100))), (0, .int (-(nI w))), (6, .int 0), (5, .int (nI ix)), (1, .int (nI ix)), (2, .ref v)]) C.1 C.2.1 dJ6_getChars_ba4f3_39 hl (by decide) rfl (fun ls hl => ?_)
  refine lv_iload_n C.1 C.2.1 dJ6_getChars_ba4f3_41 rfl (lv_at hl 1 rfl) ?_
  refine lv_istore_n (lv' := [(0, .int (-nI (w / 100))), (4, .int (nI (w % 100))), (3, .int (-nI (w / 100))), (6, .int 0), (5, .int (nI ix)), (1, .int (nI ix)), (2, .ref v)]) C.1 C.2.1 dJ6_getChars_ba4f3_42 rfl hl (by decide) rfl (fun ls hl => ?_)
  refine lv_aload_n C.1 C.2.1 dJ6_getChars_ba4f3_43 rfl (lv_at hl 6 rfl) ?_
  refine lv_iinc (v := nI (ix - 1)) (lv' := [(5, .int (nI (ix - 1))), (0, .int (-nI (w / 100))), (4, .int (nI (w % 100))), (3, .int (-nI (w / 100))), (6, .int 0), (1, .int (nI ix)), (2, .ref v)]) C.1 C.2.1 dJ6_getChars_ba4f3_44 hl (k := 4) rfl (dec_nI (by omega)) (by decide) rfl (fun ls hl => ?_)
  refine lv_iload C.1 C.2.1 dJ6_getChars_ba4f3_47 (lv_at hl 0 rfl) ?_
  refine r_dig C hw hz_digitones fl_J6_83 dJ6_getChars_ba4f3_49 ?_
  refine lv_iload C.1 C.2.1 dJ6_getChars_ba4f3_52 (lv_at hl 2 rfl) ?_
  refine r_tb C hw ht_ones (i := (w % 100)) (by omega) (by omega) dJ6_getChars_ba4f3_54 ?_
  refine r_bast C hw q1 (hR.1 _) (vp_in_nI (n := (ix - 1)) (by omega) (by omega)) (w' := W (upd f (ix - 1) (nI (48 + (w % 100) % 10)))) (by rw [show (nI (ix - 1)).toNatClampNeg = (ix - 1) from nI_clamp (by omega), show vp_nar .byte (nI (48 + (w % 100) % 10)) = (nI (48 + (w % 100) % 10)) from vb_nI (by omega)]; exact hR.2 _ _) dJ6_getChars_ba4f3_55 (fun H locs hw => ?_)
  refine lv_aload_n C.1 C.2.1 dJ6_getChars_ba4f3_56 rfl (lv_at hl 6 rfl) ?_
  refine lv_iinc (v := nI ((ix - 1) - 1)) (lv' := [(5, .int (nI ((ix - 1) - 1))), (0, .int (-nI (w / 100))), (4, .int (nI (w % 100))), (3, .int (-nI (w / 100))), (6, .int 0), (1, .int (nI ix)), (2, .ref v)]) C.1 C.2.1 dJ6_getChars_ba4f3_57 hl (k := 0) rfl (dec_nI (by omega)) (by decide) rfl (fun ls hl => ?_)
  refine lv_iload C.1 C.2.1 dJ6_getChars_ba4f3_60 (lv_at hl 0 rfl) ?_
  refine r_dig C hw hz_digittens fl_J6_87 dJ6_getChars_ba4f3_62 ?_
  refine lv_iload C.1 C.2.1 dJ6_getChars_ba4f3_65 (lv_at hl 2 rfl) ?_
  refine r_tb C hw ht_tens (i := (w % 100)) (by omega) (by omega) dJ6_getChars_ba4f3_67 ?_
  refine r_bast C hw q1 (hR.1 _) (vp_in_nI (n := ((ix - 1) - 1)) (by omega) (by omega)) (w' := W (upd (upd f (ix - 1) (nI (48 + (w % 100) % 10))) ((ix - 1) - 1) (nI (48 + (w % 100) / 10)))) (by rw [show (nI ((ix - 1) - 1)).toNatClampNeg = ((ix - 1) - 1) from nI_clamp (by omega), show vp_nar .byte (nI (48 + (w % 100) / 10)) = (nI (48 + (w % 100) / 10)) from vb_nI (by omega)]; exact hR.2 _ _) dJ6_getChars_ba4f3_68 (fun H locs hw => ?_)
  refine lv_goto (tgt := 22) C.1 C.2.1 dJ6_getChars_ba4f3_69 (by decide) ?_
  refine lv_iload_n C.1 C.2.1 dJ6_getChars_ba4f3_22 rfl (lv_at hl 1 rfl) ?_
  refine lv_bipush (v := -100) C.1 C.2.1 dJ6_getChars_ba4f3_23 (by decide) ?_
  refine lv_icmp_gt (tgt := 72) C.1 C.2.1 dJ6_getChars_ba4f3_25 (by decide) (fun c_25 => absurd c_25 (fun q9 => absurd ((sb_nlt (a := 100) (b := (w / 100)) (by decide) (by omega)).mp q9) (by omega))) (fun c_25 => ?_)
  refine lv_iload_n C.1 C.2.1 dJ6_getChars_ba4f3_28 rfl (lv_at hl 1 rfl) ?_
  refine lv_bipush (v := 100) C.1 C.2.1 dJ6_getChars_ba4f3_29 (by decide) ?_
  refine lv_idiv C.1 C.2.1 dJ6_getChars_ba4f3_31 (by decide) ?_
  refine r_toe (show _ = -nI ((w / 100) / 100) from sb_ndiv (by omega)) ?_
  refine lv_istore_n (lv' := [(3, .int (-nI ((w / 100) / 100))), (5, .int (nI ((ix - 1) - 1))), (0, .int (-nI (w / 100))), (4, .int (nI (w % 100))), (6, .int 0), (1, .int (nI ix)), (2, .ref v)]) C.1 C.2.1 dJ6_getChars_ba4f3_32 rfl hl (by decide) rfl (fun ls hl => ?_)
  refine lv_iload_n C.1 C.2.1 dJ6_getChars_ba4f3_33 rfl (lv_at hl 0 rfl) ?_
  refine lv_bipush (v := 100) C.1 C.2.1 dJ6_getChars_ba4f3_34 (by decide) ?_
  refine lv_imul C.1 C.2.1 dJ6_getChars_ba4f3_36 ?_
  refine lv_iload_n C.1 C.2.1 dJ6_getChars_ba4f3_37 rfl (lv_at hl 2 rfl) ?_
  refine lv_isub C.1 C.2.1 dJ6_getChars_ba4f3_38 ?_
  refine r_toe (show _ = nI ((w / 100) % 100) from sb_nrem (by omega)) ?_
  refine lv_istore (lv' := [(4, .int (nI ((w / 100) % 100))), (3, .int (-nI ((w / 100) / 100))), (5, .int (nI ((ix - 1) - 1))), (0, .int (-nI (w / 100))), (6, .int 0), (1, .int (nI ix)), (2, .ref v)]) C.1 C.2.1 dJ6_getChars_ba4f3_39 hl (by decide) rfl (fun ls hl => ?_)
  refine lv_iload_n C.1 C.2.1 dJ6_getChars_ba4f3_41 rfl (lv_at hl 1 rfl) ?_
  refine lv_istore_n (lv' := [(0, .int (-nI ((w / 100) / 100))), (4, .int (nI ((w / 100) % 100))), (3, .int (-nI ((w / 100) / 100))), (5, .int (nI ((ix - 1) - 1))), (6, .int 0), (1, .int (nI ix)), (2, .ref v)]) C.1 C.2.1 dJ6_getChars_ba4f3_42 rfl hl (by decide) rfl (fun ls hl => ?_)
  refine lv_aload_n C.1 C.2.1 dJ6_getChars_ba4f3_43 rfl (lv_at hl 6 rfl) ?_
  refine lv_iinc (v := nI (((ix - 1) - 1) - 1)) (lv' := [(5, .int (nI (((ix - 1) - 1) - 1))), (0, .int (-nI ((w / 100) / 100))), (4, .int (nI ((w / 100) % 100))), (3, .int (-nI ((w / 100) / 100))), (6, .int 0), (1, .int (nI ix)), (2, .ref v)]) C.1 C.2.1 dJ6_getChars_ba4f3_44 hl (k := 3) rfl (dec_nI (by omega)) (by decide) rfl (fun ls hl => ?_)
  refine lv_iload C.1 C.2.1 dJ6_getChars_ba4f3_47 (lv_at hl 0 rfl) ?_
  refine r_dig C hw hz_digitones fl_J6_83 dJ6_getChars_ba4f3_49 ?_
  refine lv_iload C.1 C.2.1 dJ6_getChars_ba4f3_52 (lv_at hl 2 rfl) ?_
  refine r_tb C hw ht_ones (i := ((w / 100) % 100)) (by omega) (by omega) dJ6_getChars_ba4f3_54 ?_
  refine r_bast C hw q1 (hR.1 _) (vp_in_nI (n := (((ix - 1) - 1) - 1)) (by omega) (by omega)) (w' := W (upd (upd (upd f (ix - 1) (nI (48 + (w % 100) % 10))) ((ix - 1) - 1) (nI (48 + (w % 100) / 10))) (((ix - 1) - 1) - 1) (nI (48 + ((w / 100) % 100) % 10)))) (by rw [show (nI (((ix - 1) - 1) - 1)).toNatClampNeg = (((ix - 1) - 1) - 1) from nI_clamp (by omega), show vp_nar .byte (nI (48 + ((w / 100) % 100) % 10)) = (nI (48 + ((w / 100) % 100) % 10)) from vb_nI (by omega)]; exact hR.2 _ _) dJ6_getChars_ba4f3_55 (fun H locs hw => ?_)
  refine lv_aload_n C.1 C.2.1 dJ6_getChars_ba4f3_56 rfl (lv_at hl 6 rfl) ?_
  refine lv_iinc (v := nI ((((ix - 1) - 1) - 1) - 1)) (lv' := [(5, .int (nI ((((ix - 1) - 1) - 1) - 1))), (0, .int (-nI ((w / 100) / 100))), (4, .int (nI ((w / 100) % 100))), (3, .int (-nI ((w / 100) / 100))), (6, .int 0), (1, .int (nI ix)), (2, .ref v)]) C.1 C.2.1 dJ6_getChars_ba4f3_57 hl (k := 0) rfl (dec_nI (by omega)) (by decide) rfl (fun ls hl => ?_)
  refine lv_iload C.1 C.2.1 dJ6_getChars_ba4f3_60 (lv_at hl 0 rfl) ?_
  refine r_dig C hw hz_digittens fl_J6_87 dJ6_getChars_ba4f3_62 ?_
  refine lv_iload C.1 C.2.1 dJ6_getChars_ba4f3_65 (lv_at hl 2 rfl) ?_
  refine r_tb C hw ht_tens (i := ((w / 100) % 100)) (by omega) (by omega) dJ6_getChars_ba4f3_67 ?_
  refine r_bast C hw q1 (hR.1 _) (vp_in_nI (n := ((((ix - 1) - 1) - 1) - 1)) (by omega) (by omega)) (w' := W (upd (upd (upd (upd f (ix - 1) (nI (48 + (w % 100) % 10))) ((ix - 1) - 1) (nI (48 + (w % 100) / 10))) (((ix - 1) - 1) - 1) (nI (48 + ((w / 100) % 100) % 10))) ((((ix - 1) - 1) - 1) - 1) (nI (48 + ((w / 100) % 100) / 10)))) (by rw [show (nI ((((ix - 1) - 1) - 1) - 1)).toNatClampNeg = ((((ix - 1) - 1) - 1) - 1) from nI_clamp (by omega), show vp_nar .byte (nI (48 + ((w / 100) % 100) / 10)) = (nI (48 + ((w / 100) % 100) / 10)) from vb_nI (by omega)]; exact hR.2 _ _) dJ6_getChars_ba4f3_68 (fun H locs hw => ?_)
  refine lv_goto (tgt := 22) C.1 C.2.1 dJ6_getChars_ba4f3_69 (by decide) ?_
  refine lv_iload_n C.1 C.2.1 dJ6_getChars_ba4f3_22 rfl (lv_at hl 1 rfl) ?_
  refine lv_bipush (v := -100) C.1 C.2.1 dJ6_getChars_ba4f3_23 (by decide) ?_
  refine lv_icmp_gt (tgt := 72) C.1 C.2.1 dJ6_getChars_ba4f3_25 (by decide) (fun c_25 => ?_) (fun c_25 => absurd ((sb_nlt (a := 100) (b := ((w / 100) / 100)) (by decide) (by omega)).mpr (by omega)) c_25)
  refine lv_aload_n C.1 C.2.1 dJ6_getChars_ba4f3_72 rfl (lv_at hl 6 rfl) ?_
  refine lv_iinc (v := nI (((((ix - 1) - 1) - 1) - 1) - 1)) (lv' := [(5, .int (nI (((((ix - 1) - 1) - 1) - 1) - 1))), (0, .int (-nI ((w / 100) / 100))), (4, .int (nI ((w / 100) % 100))), (3, .int (-nI ((w / 100) / 100))), (6, .int 0), (1, .int (nI ix)), (2, .ref v)]) C.1 C.2.1 dJ6_getChars_ba4f3_73 hl (k := 0) rfl (dec_nI (by omega)) (by decide) rfl (fun ls hl => ?_)
  refine lv_iload C.1 C.2.1 dJ6_getChars_ba4f3_76 (lv_at hl 0 rfl) ?_
  refine r_dig C hw hz_digitones fl_J6_83 dJ6_getChars_ba4f3_78 ?_
  refine lv_iload_n C.1 C.2.1 dJ6_getChars_ba4f3_81 rfl (lv_at hl 1 rfl) ?_
  refine lv_ineg C.1 C.2.1 dJ6_getChars_ba4f3_82 ?_
  refine r_toe (show _ = nI ((w / 100) / 100) from Int32.neg_neg) ?_
  refine r_tb C hw ht_ones (i := ((w / 100) / 100)) (by omega) (by omega) dJ6_getChars_ba4f3_83 ?_
  refine r_bast C hw q1 (hR.1 _) (vp_in_nI (n := (((((ix - 1) - 1) - 1) - 1) - 1)) (by omega) (by omega)) (w' := W (upd (upd (upd (upd (upd f (ix - 1) (nI (48 + (w % 100) % 10))) ((ix - 1) - 1) (nI (48 + (w % 100) / 10))) (((ix - 1) - 1) - 1) (nI (48 + ((w / 100) % 100) % 10))) ((((ix - 1) - 1) - 1) - 1) (nI (48 + ((w / 100) % 100) / 10))) (((((ix - 1) - 1) - 1) - 1) - 1) (nI (48 + ((w / 100) / 100) % 10)))) (by rw [show (nI (((((ix - 1) - 1) - 1) - 1) - 1)).toNatClampNeg = (((((ix - 1) - 1) - 1) - 1) - 1) from nI_clamp (by omega), show vp_nar .byte (nI (48 + ((w / 100) / 100) % 10)) = (nI (48 + ((w / 100) / 100) % 10)) from vb_nI (by omega)]; exact hR.2 _ _) dJ6_getChars_ba4f3_84 (fun H locs hw => ?_)
  refine lv_iload_n C.1 C.2.1 dJ6_getChars_ba4f3_85 rfl (lv_at hl 1 rfl) ?_
  refine lv_bipush (v := -9) C.1 C.2.1 dJ6_getChars_ba4f3_86 (by decide) ?_
  refine lv_icmp_ge (tgt := 104) C.1 C.2.1 dJ6_getChars_ba4f3_88 (by decide) (fun c_88 => ?_) (fun c_88 => absurd ((sb_nle (a := 9) (b := ((w / 100) / 100)) (by decide) (by omega)).mpr (by omega)) c_88)
  refine lv_iload C.1 C.2.1 dJ6_getChars_ba4f3_104 (lv_at hl 4 rfl) ?_
  refine lv_if_eq (tgt := 118) C.1 C.2.1 dJ6_getChars_ba4f3_106 (by decide) (fun c_106 => ?_) (fun c_106 => absurd (rfl) c_106)
  refine lv_iload C.1 C.2.1 dJ6_getChars_ba4f3_118 (lv_at hl 0 rfl) ?_
  have hL : dgL 4 w = [nI (48 + w / 10000 % 10), nI (48 + w / 1000 % 10), nI (48 + w / 100 % 10), nI (48 + w / 10 % 10), nI (48 + w % 10)] := dgx_5 (by omega) (by omega)
  have hix : ix = n + 5 := by rw [hL] at hx; simpa using hx.symm
  have hp : gcP f (upd (upd (upd (upd (upd f (ix - 1) (nI (48 + (w % 100) % 10))) ((ix - 1) - 1) (nI (48 + (w % 100) / 10))) (((ix - 1) - 1) - 1) (nI (48 + ((w / 100) % 100) % 10))) ((((ix - 1) - 1) - 1) - 1) (nI (48 + ((w / 100) % 100) / 10))) (((((ix - 1) - 1) - 1) - 1) - 1) (nI (48 + ((w / 100) / 100) % 10))) n (dgL 4 w) := by
    rw [hL]
    refine ⟨(sb_fitU (sb_fitU (sb_fitU (sb_fitU (sb_fitU hf (fb_nI (by omega))) (fb_nI (by omega))) (fb_nI (by omega))) (fb_nI (by omega))) (fb_nI (by omega))), fun j hj => by rw [pk_un (by omega), pk_un (by omega), pk_un (by omega), pk_un (by omega), pk_un (by omega)], fun i hi => ?_⟩
    match i, hi with
    | 0, _ => rw [show n + 0 = (((((ix - 1) - 1) - 1) - 1) - 1) by omega, pk_us]; show nI (48 + ((w / 100) / 100) % 10) = nI (48 + w / 10000 % 10); first | rfl | (congr 1; omega)
    | 1, _ => rw [pk_un (by omega), show n + 1 = ((((ix - 1) - 1) - 1) - 1) by omega, pk_us]; show nI (48 + ((w / 100) % 100) / 10) = nI (48 + w / 1000 % 10); first | rfl | (congr 1; omega)
    | 2, _ => rw [pk_un (by omega), pk_un (by omega), show n + 2 = (((ix - 1) - 1) - 1) by omega, pk_us]; show nI (48 + ((w / 100) % 100) % 10) = nI (48 + w / 100 % 10); first | rfl | (congr 1; omega)
    | 3, _ => rw [pk_un (by omega), pk_un (by omega), pk_un (by omega), show n + 3 = ((ix - 1) - 1) by omega, pk_us]; show nI (48 + (w % 100) / 10) = nI (48 + w / 10 % 10); first | rfl | (congr 1; omega)
    | 4, _ => rw [pk_un (by omega), pk_un (by omega), pk_un (by omega), pk_un (by omega), show n + 4 = (ix - 1) by omega, pk_us]; show nI (48 + (w % 100) % 10) = nI (48 + w % 10); first | rfl | (congr 1; omega)
    | i + 5, hi => exact absurd hi (by simp)
  exact r_iret C hw rfl rfl (upd (upd (upd (upd (upd f (ix - 1) (nI (48 + (w % 100) % 10))) ((ix - 1) - 1) (nI (48 + (w % 100) / 10))) (((ix - 1) - 1) - 1) (nI (48 + ((w / 100) % 100) % 10))) ((((ix - 1) - 1) - 1) - 1) (nI (48 + ((w / 100) % 100) / 10))) (((((ix - 1) - 1) - 1) - 1) - 1) (nI (48 + ((w / 100) / 100) % 10))) (hp) rfl (Nat.le_of_ble_eq_true rfl) (Nat.le_of_ble_eq_true rfl) dJ6_getChars_ba4f3_120

