/-! Stalls, and DropMarket.isWithin -/
def inR (x lo hi : Int32) : Bool := !decide (x < lo) && !decide (hi < x)
def hasN (x : Int32) (n : Nat) : Bool := decide (0 ≤ x.toInt ∧ x.toInt < n)
theorem hasN_of {x : Int32} {n : Nat} (h : hasN x n = true) (hn : n < 2 ^ 31) : ∃ k, k < n ∧ x = nI k := by
  simp only [hasN, decide_eq_true_eq] at h
  obtain ⟨j, h1, h2⟩ := vp_in_of (vp_in_iff.mpr h) hn
  exact ⟨j, h1, h2⟩
def opS (S : SV) (nt : Nat) (mo dr : Int32) : SV := sI (sR (sR S 0 (upd (S.2.1 0) nt mo)) 1 (upd (S.2.1 1) nt dr)) 0 (nI (nt + 1))
def rkC (S : SV) (j o : Nat) : Bool := decide (0 < S.2.1 0 o - S.2.1 0 j) || (decide (S.2.1 0 o - S.2.1 0 j = 0) && !decide (nI j ≤ nI o))
/-- how many stalls are ahead of stall j -/
def rkS (S : SV) (nt j : Nat) : Int32 := bS (rkC S j) (fun _ => 1) nt
def rkF (S : SV) (nt : Nat) (x : Int32) : Option Nat := fnd (fun j => decide (rkS S nt j = x)) nt
def slC (S T : SV) : SV := sI (sR (sR S 0 (T.2.1 0)) 1 (T.2.1 1)) 0 (T.1 0)

set_option maxHeartbeats 4000000 in
set_option maxRecDepth 100000 in
theorem k11_isWithin {l : Launch} {G : Gx} (hF : SF l G) {X : va_W} (x lo hi : Int32) : MI l G yX11_isWithin cX11_isWithin 3 .boolean 0 0 0 [.int x, .int lo, .int hi] X (fun r (_ : Unit) => r = bI (inR x lo hi)) (fun _ => X) := by
  refine mt_of hF (by decide) (Nat.le_of_ble_eq_true rfl) ?_
  intro p e s m below meth c C hin ls hl H locs hw
  have hl : lv_has ls 3 [(0, .int x), (1, .int lo), (2, .int hi)] := hl
  refine lv_iload_n C.1 C.2.1 dX11_isWithin_0 rfl (lv_at hl 0 rfl) ?_
  refine lv_iload_n C.1 C.2.1 dX11_isWithin_1 rfl (lv_at hl 1 rfl) ?_
  refine lv_icmp_lt (tgt := 14) C.1 C.2.1 dX11_isWithin_2 (by decide) (fun c_2 => ?_) (fun c_2 => ?_)
  · refine lv_iconst (v := 0) C.1 C.2.1 dX11_isWithin_14 (by decide) ?_
    exact r_iret C hw rfl rfl () (by simp [inR, bI, c_2]) rfl (Nat.le_of_ble_eq_true rfl) (Nat.le_of_ble_eq_true rfl) dX11_isWithin_15
  · refine lv_iload_n C.1 C.2.1 dX11_isWithin_5 rfl (lv_at hl 0 rfl) ?_
    refine lv_iload_n C.1 C.2.1 dX11_isWithin_6 rfl (lv_at hl 2 rfl) ?_
    refine lv_icmp_gt (tgt := 14) C.1 C.2.1 dX11_isWithin_7 (by decide) (fun c_7 => ?_) (fun c_7 => ?_)
    · refine lv_iconst (v := 0) C.1 C.2.1 dX11_isWithin_14 (by decide) ?_
      exact r_iret C hw rfl rfl () (by simp [inR, bI, c_2, c_7]) rfl (Nat.le_of_ble_eq_true rfl) (Nat.le_of_ble_eq_true rfl) dX11_isWithin_15
    · refine lv_iconst (v := 1) C.1 C.2.1 dX11_isWithin_10 (by decide) ?_
      refine lv_goto (tgt := 15) C.1 C.2.1 dX11_isWithin_11 (by decide) ?_
      exact r_iret C hw rfl rfl () (by simp [inR, bI, c_2, c_7]) rfl (Nat.le_of_ble_eq_true rfl) (Nat.le_of_ble_eq_true rfl) dX11_isWithin_15

set_option maxHeartbeats 4000000 in
set_option maxRecDepth 100000 in
theorem k8_has {l : Launch} {G : Gx} (hF : SF l G) {a : Nat → Nat} {S : SV} {X : va_W} {nt : Nat} (ht : S.1 0 = nI nt) (hnt6 : nt ≤ 6) (x : Int32) : MI l G yX8_has cX8_has 2 .boolean 0 0 0 [.ref (a 1), .int x] (stW G a S ++ X) (fun r _ => r = bI (hasN x nt)) (fun _ : Unit => stW G a S ++ X) := by
  refine mt_of hF (by decide) (Nat.le_of_ble_eq_true rfl) ?_
  intro p e s m below meth c C hin ls hl H locs hw
  have hl : lv_has ls 2 [(0, .ref (a 1)), (1, .int x)] := hl
  refine lv_iload_n C.1 C.2.1 dX8_has_0 rfl (lv_at hl 1 rfl) ?_
  refine lv_if_lt (tgt := 16) C.1 C.2.1 dX8_has_1 (by decide) (fun c_1 => ?_) (fun c_1 => ?_)
  · refine lv_iconst (v := 0) C.1 C.2.1 dX8_has_16 (by decide) ?_
    exact r_iret C hw rfl rfl () (by have := i_lt0 c_1; simp [hasN, bI]; omega) rfl (Nat.le_of_ble_eq_true rfl) (Nat.le_of_ble_eq_true rfl) dX8_has_17
  · refine lv_iload_n C.1 C.2.1 dX8_has_4 rfl (lv_at hl 1 rfl) ?_
    refine lv_aload_n C.1 C.2.1 dX8_has_5 rfl (lv_at hl 0 rfl) ?_
    refine r_get C hw 1 rfl rfl in_X8 2 (by decide) fl_X8_23 rfl (v := .int (S.1 0)) rfl dX8_has_6 ?_
    refine r_toe (show _ = nI nt from ht) ?_
    refine lv_icmp_ge (tgt := 16) C.1 C.2.1 dX8_has_9 (by decide) (fun c_9 => ?_) (fun c_9 => ?_)
    · refine lv_iconst (v := 0) C.1 C.2.1 dX8_has_16 (by decide) ?_
      exact r_iret C hw rfl rfl () (by have := i_ge (by omega) c_9; simp [hasN, bI]; omega) rfl (Nat.le_of_ble_eq_true rfl) (Nat.le_of_ble_eq_true rfl) dX8_has_17
    · refine lv_iconst (v := 1) C.1 C.2.1 dX8_has_12 (by decide) ?_
      refine lv_goto (tgt := 17) C.1 C.2.1 dX8_has_13 (by decide) ?_
      exact r_iret C hw rfl rfl () (by have h1 := i_ge0 c_1; have h2 := i_lt (by omega) c_9; simp [hasN, bI]; omega) rfl (Nat.le_of_ble_eq_true rfl) (Nat.le_of_ble_eq_true rfl) dX8_has_17

set_option maxHeartbeats 4000000 in
set_option maxRecDepth 100000 in
theorem k8_isFull {l : Launch} {G : Gx} (hF : SF l G) {a : Nat → Nat} {S : SV} {X : va_W} {nt : Nat} (ht : S.1 0 = nI nt) (hnt6 : nt ≤ 6) : MI l G yX8_isFull cX8_isFull 1 .boolean 0 0 0 [.ref (a 1)] (stW G a S ++ X) (fun r _ => r = bI (decide (6 ≤ nt))) (fun _ : Unit => stW G a S ++ X) := by
  refine mt_of hF (by decide) (Nat.le_of_ble_eq_true rfl) ?_
  intro p e s m below meth c C hin ls hl H locs hw
  have hl : lv_has ls 1 [(0, .ref (a 1))] := hl
  refine lv_aload_n C.1 C.2.1 dX8_isFull_0 rfl (lv_at hl 0 rfl) ?_
  refine r_get C hw 1 rfl rfl in_X8 2 (by decide) fl_X8_23 rfl (v := .int (S.1 0)) rfl dX8_isFull_1 ?_
  refine r_toe (show _ = nI nt from ht) ?_
  refine lv_bipush (v := 6) C.1 C.2.1 dX8_isFull_4 (by decide) ?_
  refine lv_icmp_lt (tgt := 13) C.1 C.2.1 dX8_isFull_6 (by decide) (fun c_6 => ?_) (fun c_6 => ?_)
  · refine lv_iconst (v := 0) C.1 C.2.1 dX8_isFull_13 (by decide) ?_
    exact r_iret C hw rfl rfl () (by have h := lt_T (k := nt) (n := 6) (by decide) (by omega) c_6; simp [bI]; omega) rfl (Nat.le_of_ble_eq_true rfl) (Nat.le_of_ble_eq_true rfl) dX8_isFull_14
  · refine lv_iconst (v := 1) C.1 C.2.1 dX8_isFull_9 (by decide) ?_
    refine lv_goto (tgt := 14) C.1 C.2.1 dX8_isFull_10 (by decide) ?_
    exact r_iret C hw rfl rfl () (by have h := lt_F (k := nt) (n := 6) (by decide) (by omega) c_6; simp [bI]; omega) rfl (Nat.le_of_ble_eq_true rfl) (Nat.le_of_ble_eq_true rfl) dX8_isFull_14

set_option maxHeartbeats 4000000 in
set_option maxRecDepth 100000 in
theorem k8_open {l : Launch} {G : Gx} (hF : SF l G) {a : Nat → Nat} {S : SV} {X : va_W} {nt : Nat} (ht : S.1 0 = nI nt) (hnt6 : nt < 6) (mo dr : Int32) : MI l G yX8_open cX8_open 4 .int 1 0 0 [.ref (a 1), .int mo, .int dr] (stW G a S ++ X) (fun r _ => r = nI nt) (fun _ : Unit => stW G a (opS S nt mo dr) ++ X) := by
  refine mt_of hF (by decide) (Nat.le_of_ble_eq_true rfl) ?_
  intro p e s m below meth c C hin ls hl H locs hw
  have hl : lv_has ls 4 [(0, .ref (a 1)), (1, .int mo), (2, .int dr)] := hl
  refine lv_aload_n C.1 C.2.1 dX8_open_0 rfl (lv_at hl 0 rfl) ?_
  refine r_get C hw 1 rfl rfl in_X8 2 (by decide) fl_X8_23 rfl (v := .int (S.1 0)) rfl dX8_open_1 ?_
  refine r_toe (show _ = nI nt from ht) ?_
  refine lv_istore_n (lv' := [(3, .int (nI nt)), (0, .ref (a 1)), (1, .int mo), (2, .int dr)]) C.1 C.2.1 dX8_open_4 rfl hl (by decide) rfl (fun ls hl => ?_)
  refine lv_aload_n C.1 C.2.1 dX8_open_5 rfl (lv_at hl 1 rfl) ?_
  refine r_get C hw 1 rfl rfl in_X8 0 (by decide) fl_X8_14 rfl (v := .ref (a 2)) rfl dX8_open_6 ?_
  refine lv_iload_n C.1 C.2.1 dX8_open_9 rfl (lv_at hl 0 rfl) ?_
  refine lv_iload_n C.1 C.2.1 dX8_open_10 rfl (lv_at hl 2 rfl) ?_
  refine r_vv C hw (k7_set hF (strow_0 G a S X) (by decide) (strow_e G a S X 0) (nI nt) mo) ml_X8_27 yf_X7_set 2 rfl rfl (As := [.int (nI nt), .int mo]) rfl rfl ⟨Nat.le_of_ble_eq_true rfl, Nat.le_of_ble_eq_true rfl⟩ ⟨Nat.le_of_ble_eq_true rfl, Nat.le_of_ble_eq_true rfl⟩ hl.1 (Nat.le_of_ble_eq_true rfl) dX8_open_11 (fun _ H locs hp_11 hw => ?_)
  replace hw : WH G s (stW G a (sR S 0 (upd (S.2.1 0) nt mo)) ++ X) H locs := hw.to (congrArg (fun g => stW G a (sR S 0 g) ++ X) (rset_nI (by omega) (by decide)))
  refine lv_aload_n C.1 C.2.1 dX8_open_14 rfl (lv_at hl 1 rfl) ?_
  refine r_get C hw 1 rfl rfl in_X8 1 (by decide) fl_X8_20 rfl (v := .ref (a 4)) rfl dX8_open_15 ?_
  refine lv_iload_n C.1 C.2.1 dX8_open_18 rfl (lv_at hl 0 rfl) ?_
  refine lv_iload_n C.1 C.2.1 dX8_open_19 rfl (lv_at hl 3 rfl) ?_
  refine r_vv C hw (k7_set hF (strow_1 G a (sR S 0 (upd (S.2.1 0) nt mo)) X) (by decide) (strow_e G a (sR S 0 (upd (S.2.1 0) nt mo)) X 1) (nI nt) dr) ml_X8_27 yf_X7_set 4 rfl rfl (As := [.int (nI nt), .int dr]) rfl rfl ⟨Nat.le_of_ble_eq_true rfl, Nat.le_of_ble_eq_true rfl⟩ ⟨Nat.le_of_ble_eq_true rfl, Nat.le_of_ble_eq_true rfl⟩ hl.1 (Nat.le_of_ble_eq_true rfl) dX8_open_20 (fun _ H locs hp_20 hw => ?_)
  replace hw : WH G s (stW G a (sR (sR S 0 (upd (S.2.1 0) nt mo)) 1 (upd (S.2.1 1) nt dr)) ++ X) H locs := hw.to (congrArg (fun g => stW G a (sR (sR S 0 (upd (S.2.1 0) nt mo)) 1 g) ++ X) (rset_nI (by omega) (by decide)))
  refine lv_aload_n C.1 C.2.1 dX8_open_23 rfl (lv_at hl 1 rfl) ?_
  refine lv_dup C.1 C.2.1 dX8_open_24 rfl ?_
  refine r_get C hw 1 rfl rfl in_X8 2 (by decide) fl_X8_23 rfl (v := .int (S.1 0)) rfl dX8_open_25 ?_
  refine r_toe (show _ = nI nt from ht) ?_
  refine lv_iconst (v := 1) C.1 C.2.1 dX8_open_28 (by decide) ?_
  refine lv_iadd C.1 C.2.1 dX8_open_29 ?_
  refine r_toe (show _ = nI (nt + 1) from nI_1 nt) ?_
  refine r_put C hw 1 rfl rfl in_X8 tyX8 tyX8_ok nmX8 2 (by decide) fl_X8_23 rfl rfl rfl rfl (Nat.le_of_ble_eq_true rfl) (w' := stW G a (sI (sR (sR S 0 (upd (S.2.1 0) nt mo)) 1 (upd (S.2.1 1) nt dr)) 0 (nI (nt + 1))) ++ X) rfl dX8_open_30 (fun H locs hw => ?_)
  refine lv_iload_n C.1 C.2.1 dX8_open_33 rfl (lv_at hl 0 rfl) ?_
  exact r_iret C hw rfl rfl () (rfl) rfl (Nat.le_of_ble_eq_true rfl) (Nat.le_of_ble_eq_true rfl) dX8_open_34

set_option maxHeartbeats 4000000 in
set_option maxRecDepth 100000 in
theorem k8_rankOf {l : Launch} {G : Gx} (hF : SF l G) {a : Nat → Nat} {S : SV} {X : va_W} {nt : Nat} (ht : S.1 0 = nI nt) (hnt6 : nt ≤ 6) {j : Nat} (hj : j < nt) : MI l G yX8_rankOf cX8_rankOf 5 .int 1 0 0 [.ref (a 1), .int (nI j)] (stW G a S ++ X) (fun r _ => r = rkS S nt j) (fun _ : Unit => stW G a S ++ X) := by
  refine mt_of hF (by decide) (Nat.le_of_ble_eq_true rfl) ?_
  intro p e s m below meth c C hin ls hl H locs hw
  have hl : lv_has ls 5 [(0, .ref (a 1)), (1, .int (nI j))] := hl
  refine lv_iconst (v := 0) C.1 C.2.1 dX8_rankOf_0 (by decide) ?_
  refine lv_istore_n (lv' := [(2, .int 0), (0, .ref (a 1)), (1, .int (nI j))]) C.1 C.2.1 dX8_rankOf_1 rfl hl (by decide) rfl (fun ls hl => ?_)
  refine lv_iconst (v := 0) C.1 C.2.1 dX8_rankOf_2 (by decide) ?_
  refine lv_istore_n (lv' := [(3, .int 0), (2, .int 0), (0, .ref (a 1)), (1, .int (nI j))]) C.1 C.2.1 dX8_rankOf_3 rfl hl (by decide) rfl (fun ls hl => ?_)
  refine w_loop (σ := Nat × Int32) G (fun u ⟨k, x1⟩ => k ≤ nt ∧ nt < k + u ∧ x1 = bS (rkC S j) (fun _ => 1) k) (fun ⟨k, x1⟩ => stW G a S ++ X) (fun ⟨k, x1⟩ => 0) (fun ⟨k, x1⟩ => 0) (fun ⟨k, x1⟩ => [(0, .ref (a 1)), (1, .int (nI j)), (2, .int x1), (3, .int (nI k))]) 5 ?_ ?_ (nt + 1) (0, 0) (⟨Nat.zero_le _, by omega, rfl⟩) hw (lv_sub hl [2, 3, 1, 0] rfl)
  · rintro n4 ⟨k, x1⟩ ⟨h1, h2, h3⟩ ih4 H locs hw ls hl
    replace hw : WH G s (stW G a S ++ X) H locs := hw
    replace hl : lv_has ls 5 [(0, .ref (a 1)), (1, .int (nI j)), (2, .int x1), (3, .int (nI k))] := hl
    refine lv_iload_n C.1 C.2.1 dX8_rankOf_4 rfl (lv_at hl 3 rfl) ?_
    refine lv_aload_n C.1 C.2.1 dX8_rankOf_5 rfl (lv_at hl 0 rfl) ?_
    refine r_get C hw 1 rfl rfl in_X8 2 (by decide) fl_X8_23 rfl (v := .int (S.1 0)) rfl dX8_rankOf_6 ?_
    refine r_toe (show _ = nI nt from ht) ?_
    refine lv_icmp_ge (tgt := 55) C.1 C.2.1 dX8_rankOf_9 (by decide) (fun c_9 => ?_) (fun c_9 => ?_)
    · obtain rfl := le_T h1 (by omega) c_9
      refine lv_iload_n C.1 C.2.1 dX8_rankOf_55 rfl (lv_at hl 2 rfl) ?_
      exact r_iret C hw rfl rfl () (by rw [h3]; rfl) rfl (Nat.le_of_ble_eq_true rfl) (Nat.le_of_ble_eq_true rfl) dX8_rankOf_56
    · have hk := le_F h1 (by omega) c_9
      refine lv_aload_n C.1 C.2.1 dX8_rankOf_12 rfl (lv_at hl 0 rfl) ?_
      refine r_get C hw 1 rfl rfl in_X8 0 (by decide) fl_X8_14 rfl (v := .ref (a 2)) rfl dX8_rankOf_13 ?_
      refine lv_iload_n C.1 C.2.1 dX8_rankOf_16 rfl (lv_at hl 3 rfl) ?_
      refine r_vi C hw (k7_get hF (strow_0 G a S X) (by decide) (strow_e G a S X 0) (nI k)) ml_X8_35 yf_X7_get 2 rfl rfl (As := [.int (nI k)]) rfl rfl ⟨Nat.le_of_ble_eq_true rfl, Nat.le_of_ble_eq_true rfl⟩ ⟨Nat.le_of_ble_eq_true rfl, Nat.le_of_ble_eq_true rfl⟩ hl.1 (Nat.le_of_ble_eq_true rfl) dX8_rankOf_17 (fun r_17 _ H locs hp_17 hw => ?_)
      obtain rfl : r_17 = ((S.2.1 0) k) := by rw [hp_17]; exact rget_nI (by omega) (by decide)
      replace hw : WH G s (stW G a S ++ X) H locs := hw
      refine lv_aload_n C.1 C.2.1 dX8_rankOf_20 rfl (lv_at hl 0 rfl) ?_
      refine r_get C hw 1 rfl rfl in_X8 0 (by decide) fl_X8_14 rfl (v := .ref (a 2)) rfl dX8_rankOf_21 ?_
      refine lv_iload_n C.1 C.2.1 dX8_rankOf_24 rfl (lv_at hl 1 rfl) ?_
      refine r_vi C hw (k7_get hF (strow_0 G a S X) (by decide) (strow_e G a S X 0) (nI j)) ml_X8_35 yf_X7_get 2 rfl rfl (As := [.int (nI j)]) rfl rfl ⟨Nat.le_of_ble_eq_true rfl, Nat.le_of_ble_eq_true rfl⟩ ⟨Nat.le_of_ble_eq_true rfl, Nat.le_of_ble_eq_true rfl⟩ hl.1 (Nat.le_of_ble_eq_true rfl) dX8_rankOf_25 (fun r_25 _ H locs hp_25 hw => ?_)
      obtain rfl : r_25 = ((S.2.1 0) j) := by rw [hp_25]; exact rget_nI (by omega) (by decide)
      replace hw : WH G s (stW G a S ++ X) H locs := hw
      refine lv_isub C.1 C.2.1 dX8_rankOf_28 ?_
      refine lv_istore (lv' := [(4, .int (((S.2.1 0) k) - ((S.2.1 0) j))), (0, .ref (a 1)), (1, .int (nI j)), (2, .int x1), (3, .int (nI k))]) C.1 C.2.1 dX8_rankOf_29 hl (by decide) rfl (fun ls hl => ?_)
      refine lv_iload C.1 C.2.1 dX8_rankOf_31 (lv_at hl 0 rfl) ?_
      refine lv_if_gt (tgt := 46) C.1 C.2.1 dX8_rankOf_33 (by decide) (fun c_33 => ?_) (fun c_33 => ?_)
      · refine lv_iinc (v := x1 + 1) (lv' := [(2, .int (x1 + 1)), (4, .int (((S.2.1 0) k) - ((S.2.1 0) j))), (0, .ref (a 1)), (1, .int (nI j)), (3, .int (nI k))]) C.1 C.2.1 dX8_rankOf_46 hl (k := 3) rfl (by rw [lit1]) (by decide) rfl (fun ls hl => ?_)
        refine lv_iinc (v := nI (k + 1)) (lv' := [(3, .int (nI (k + 1))), (2, .int (x1 + 1)), (4, .int (((S.2.1 0) k) - ((S.2.1 0) j))), (0, .ref (a 1)), (1, .int (nI j))]) C.1 C.2.1 dX8_rankOf_49 hl (k := 4) rfl (inc_nI k) (by decide) rfl (fun ls hl => ?_)
        refine lv_goto (tgt := 4) C.1 C.2.1 dX8_rankOf_52 (by decide) ?_
        exact ih4 (k + 1, (x1 + 1)) (⟨by omega, by omega, bS_t h3 (by simp [rkC, c_33])⟩) _ _ hw _ (lv_sub hl [3, 4, 1, 0] rfl)
      · refine lv_iload C.1 C.2.1 dX8_rankOf_36 (lv_at hl 0 rfl) ?_
        refine lv_if_ne (tgt := 49) C.1 C.2.1 dX8_rankOf_38 (by decide) (fun c_38 => ?_) (fun c_38 => ?_)
        · refine lv_iinc (v := nI (k + 1)) (lv' := [(3, .int (nI (k + 1))), (4, .int (((S.2.1 0) k) - ((S.2.1 0) j))), (0, .ref (a 1)), (1, .int (nI j)), (2, .int x1)]) C.1 C.2.1 dX8_rankOf_49 hl (k := 4) rfl (inc_nI k) (by decide) rfl (fun ls hl => ?_)
          refine lv_goto (tgt := 4) C.1 C.2.1 dX8_rankOf_52 (by decide) ?_
          exact ih4 (k + 1, x1) (⟨by omega, by omega, bS_f h3 (by simp [rkC, c_33, c_38])⟩) _ _ hw _ (lv_sub hl [2, 3, 4, 0] rfl)
        · refine lv_iload_n C.1 C.2.1 dX8_rankOf_41 rfl (lv_at hl 4 rfl) ?_
          refine lv_iload_n C.1 C.2.1 dX8_rankOf_42 rfl (lv_at hl 2 rfl) ?_
          refine lv_icmp_ge (tgt := 49) C.1 C.2.1 dX8_rankOf_43 (by decide) (fun c_43 => ?_) (fun c_43 => ?_)
          · refine lv_iinc (v := nI (k + 1)) (lv' := [(3, .int (nI (k + 1))), (4, .int (((S.2.1 0) k) - ((S.2.1 0) j))), (0, .ref (a 1)), (1, .int (nI j)), (2, .int x1)]) C.1 C.2.1 dX8_rankOf_49 hl (k := 4) rfl (inc_nI k) (by decide) rfl (fun ls hl => ?_)
            refine lv_goto (tgt := 4) C.1 C.2.1 dX8_rankOf_52 (by decide) ?_
            exact ih4 (k + 1, x1) (⟨by omega, by omega, bS_f h3 (by simp [rkC, c_33, c_38, c_43])⟩) _ _ hw _ (lv_sub hl [2, 3, 4, 0] rfl)
          · refine lv_iinc (v := x1 + 1) (lv' := [(2, .int (x1 + 1)), (4, .int (((S.2.1 0) k) - ((S.2.1 0) j))), (0, .ref (a 1)), (1, .int (nI j)), (3, .int (nI k))]) C.1 C.2.1 dX8_rankOf_46 hl (k := 3) rfl (by rw [lit1]) (by decide) rfl (fun ls hl => ?_)
            refine lv_iinc (v := nI (k + 1)) (lv' := [(3, .int (nI (k + 1))), (2, .int (x1 + 1)), (4, .int (((S.2.1 0) k) - ((S.2.1 0) j))), (0, .ref (a 1)), (1, .int (nI j))]) C.1 C.2.1 dX8_rankOf_49 hl (k := 4) rfl (inc_nI k) (by decide) rfl (fun ls hl => ?_)
            refine lv_goto (tgt := 4) C.1 C.2.1 dX8_rankOf_52 (by decide) ?_
            exact ih4 (k + 1, (x1 + 1)) (⟨by omega, by omega, bS_t h3 (by simp [rkC, c_33, c_38, c_43])⟩) _ _ hw _ (lv_sub hl [3, 4, 1, 0] rfl)
  · rintro ⟨k, x1⟩ ⟨h1, h2, h3⟩; omega

set_option maxHeartbeats 4000000 in
set_option maxRecDepth 100000 in
theorem k8_withRank {l : Launch} {G : Gx} (hF : SF l G) {a : Nat → Nat} {S : SV} {X : va_W} {nt : Nat} (ht : S.1 0 = nI nt) (hnt6 : nt ≤ 6) (x : Int32) : MI l G yX8_withRank cX8_withRank 3 .int 2 0 0 [.ref (a 1), .int x] (stW G a S ++ X) (fun r _ => r = oI (rkF S nt x)) (fun _ : Unit => stW G a S ++ X) := by
  refine mt_of hF (by decide) (Nat.le_of_ble_eq_true rfl) ?_
  intro p e s m below meth c C hin ls hl H locs hw
  have hl : lv_has ls 3 [(0, .ref (a 1)), (1, .int x)] := hl
  refine lv_iconst (v := 0) C.1 C.2.1 dX8_withRank_0 (by decide) ?_
  refine lv_istore_n (lv' := [(2, .int 0), (0, .ref (a 1)), (1, .int x)]) C.1 C.2.1 dX8_withRank_1 rfl hl (by decide) rfl (fun ls hl => ?_)
  refine w_loop (σ := Nat) G (fun u k => k ≤ nt ∧ nt < k + u ∧ fnd (fun j => decide (rkS S nt j = x)) k = none) (fun k => stW G a S ++ X) (fun k => 0) (fun k => 0) (fun k => [(0, .ref (a 1)), (1, .int x), (2, .int (nI k))]) 3 ?_ ?_ (nt + 1) 0 (⟨Nat.zero_le _, by omega, rfl⟩) hw (lv_sub hl [1, 2, 0] rfl)
  · rintro n2 k ⟨h1, h2, h3⟩ ih2 H locs hw ls hl
    replace hw : WH G s (stW G a S ++ X) H locs := hw
    replace hl : lv_has ls 3 [(0, .ref (a 1)), (1, .int x), (2, .int (nI k))] := hl
    refine lv_iload_n C.1 C.2.1 dX8_withRank_2 rfl (lv_at hl 2 rfl) ?_
    refine lv_aload_n C.1 C.2.1 dX8_withRank_3 rfl (lv_at hl 0 rfl) ?_
    refine r_get C hw 1 rfl rfl in_X8 2 (by decide) fl_X8_23 rfl (v := .int (S.1 0)) rfl dX8_withRank_4 ?_
    refine r_toe (show _ = nI nt from ht) ?_
    refine lv_icmp_ge (tgt := 27) C.1 C.2.1 dX8_withRank_7 (by decide) (fun c_7 => ?_) (fun c_7 => ?_)
    · obtain rfl := le_T h1 (by omega) c_7
      refine lv_iconst (v := -1) C.1 C.2.1 dX8_withRank_27 (by decide) ?_
      exact r_iret C hw rfl rfl () (by rw [rkF, h3]; rfl) rfl (Nat.le_of_ble_eq_true rfl) (Nat.le_of_ble_eq_true rfl) dX8_withRank_28
    · have hk := le_F h1 (by omega) c_7
      refine lv_aload_n C.1 C.2.1 dX8_withRank_10 rfl (lv_at hl 0 rfl) ?_
      refine lv_iload_n C.1 C.2.1 dX8_withRank_11 rfl (lv_at hl 2 rfl) ?_
      refine r_vi C hw (k8_rankOf hF (a := a) (S := S) (X := X) (nt := nt) ht hnt6 (j := k) hk) ml_X8_31 yf_X8_rankOf 1 rfl rfl (As := [.int (nI k)]) rfl rfl ⟨Nat.le_of_ble_eq_true rfl, Nat.le_of_ble_eq_true rfl⟩ ⟨Nat.le_of_ble_eq_true rfl, Nat.le_of_ble_eq_true rfl⟩ hl.1 (Nat.le_of_ble_eq_true rfl) dX8_withRank_12 (fun r_12 _ H locs hp_12 hw => ?_)
      obtain rfl : r_12 = rkS S nt k := hp_12
      replace hw : WH G s (stW G a S ++ X) H locs := hw
      refine lv_iload_n C.1 C.2.1 dX8_withRank_15 rfl (lv_at hl 1 rfl) ?_
      refine lv_icmp_ne (tgt := 21) C.1 C.2.1 dX8_withRank_16 (by decide) (fun c_16 => ?_) (fun c_16 => ?_)
      · refine lv_iinc (v := nI (k + 1)) (lv' := [(2, .int (nI (k + 1))), (0, .ref (a 1)), (1, .int x)]) C.1 C.2.1 dX8_withRank_21 hl (k := 2) rfl (inc_nI k) (by decide) rfl (fun ls hl => ?_)
        refine lv_goto (tgt := 2) C.1 C.2.1 dX8_withRank_24 (by decide) ?_
        exact ih2 (k + 1) (⟨by omega, by omega, fnd_f h3 (by simp [c_16])⟩) _ _ hw _ (lv_sub hl [1, 2, 0] rfl)
      · refine lv_iload_n C.1 C.2.1 dX8_withRank_19 rfl (lv_at hl 2 rfl) ?_
        exact r_iret C hw rfl rfl () (by rw [rkF, fnd_t h3 (by simp [c_16]) hk]; rfl) rfl (Nat.le_of_ble_eq_true rfl) (Nat.le_of_ble_eq_true rfl) dX8_withRank_20
  · rintro k ⟨h1, h2, h3⟩; omega

set_option maxHeartbeats 4000000 in
set_option maxRecDepth 100000 in
theorem k8_copyFrom {l : Launch} {G : Gx} (hF : SF l G) {a : Nat → Nat} {S : SV} {X : va_W} {b : Nat → Nat} {T : SV} : MV l G yX8_copyFrom cX8_copyFrom 2 1 0 0 [.ref (a 1), .ref (b 1)] (stW G a S ++ (stW G b T ++ X)) (fun _ => True) (fun _ : Unit => stW G a (slC S T) ++ (stW G b T ++ X)) := by
  refine mt_of hF (by decide) (Nat.le_of_ble_eq_true rfl) ?_
  intro p e s m below meth c C hin ls hl H locs hw
  have hl : lv_has ls 2 [(0, .ref (a 1)), (1, .ref (b 1))] := hl
  refine lv_aload_n C.1 C.2.1 dX8_copyFrom_0 rfl (lv_at hl 0 rfl) ?_
  refine r_get C hw 1 rfl rfl in_X8 0 (by decide) fl_X8_14 rfl (v := .ref (a 2)) rfl dX8_copyFrom_1 ?_
  refine lv_aload_n C.1 C.2.1 dX8_copyFrom_4 rfl (lv_at hl 1 rfl) ?_
  refine r_get C hw 20 rfl rfl in_X8 0 (by decide) fl_X8_14 rfl (v := .ref (b 2)) rfl dX8_copyFrom_5 ?_
  refine r_vv C hw (k7_copyFrom hF (strow_0 G a S (stW G b T ++ X)) (by decide) (strow_e G a S (stW G b T ++ X) 0) (q2 := 21) (q3 := 22) (g := T.2.1 0) ⟨fun _ => rfl, fun _ => rfl⟩) ml_X8_38 yf_X7_copyFrom 2 rfl rfl (As := [.ref (b 2)]) rfl rfl ⟨Nat.le_of_ble_eq_true rfl, Nat.le_of_ble_eq_true rfl⟩ ⟨Nat.le_of_ble_eq_true rfl, Nat.le_of_ble_eq_true rfl⟩ hl.1 (Nat.le_of_ble_eq_true rfl) dX8_copyFrom_8 (fun _ H locs hp_8 hw => ?_)
  replace hw : WH G s (stW G a (sR S 0 (T.2.1 0)) ++ (stW G b T ++ X)) H locs := hw
  refine lv_aload_n C.1 C.2.1 dX8_copyFrom_11 rfl (lv_at hl 0 rfl) ?_
  refine r_get C hw 1 rfl rfl in_X8 1 (by decide) fl_X8_20 rfl (v := .ref (a 4)) rfl dX8_copyFrom_12 ?_
  refine lv_aload_n C.1 C.2.1 dX8_copyFrom_15 rfl (lv_at hl 1 rfl) ?_
  refine r_get C hw 20 rfl rfl in_X8 1 (by decide) fl_X8_20 rfl (v := .ref (b 4)) rfl dX8_copyFrom_16 ?_
  refine r_vv C hw (k7_copyFrom hF (strow_1 G a (sR S 0 (T.2.1 0)) (stW G b T ++ X)) (by decide) (strow_e G a (sR S 0 (T.2.1 0)) (stW G b T ++ X) 1) (q2 := 23) (q3 := 24) (g := T.2.1 1) ⟨fun _ => rfl, fun _ => rfl⟩) ml_X8_38 yf_X7_copyFrom 4 rfl rfl (As := [.ref (b 4)]) rfl rfl ⟨Nat.le_of_ble_eq_true rfl, Nat.le_of_ble_eq_true rfl⟩ ⟨Nat.le_of_ble_eq_true rfl, Nat.le_of_ble_eq_true rfl⟩ hl.1 (Nat.le_of_ble_eq_true rfl) dX8_copyFrom_19 (fun _ H locs hp_19 hw => ?_)
  replace hw : WH G s (stW G a (sR (sR S 0 (T.2.1 0)) 1 (T.2.1 1)) ++ (stW G b T ++ X)) H locs := hw
  refine lv_aload_n C.1 C.2.1 dX8_copyFrom_22 rfl (lv_at hl 0 rfl) ?_
  refine lv_aload_n C.1 C.2.1 dX8_copyFrom_23 rfl (lv_at hl 1 rfl) ?_
  refine r_get C hw 20 rfl rfl in_X8 2 (by decide) fl_X8_23 rfl (v := .int (T.1 0)) rfl dX8_copyFrom_24 ?_
  refine r_put C hw 1 rfl rfl in_X8 tyX8 tyX8_ok nmX8 2 (by decide) fl_X8_23 rfl rfl rfl rfl (Nat.le_of_ble_eq_true rfl) (w' := stW G a (sI (sR (sR S 0 (T.2.1 0)) 1 (T.2.1 1)) 0 (T.1 0)) ++ (stW G b T ++ X)) rfl dX8_copyFrom_27 (fun H locs hw => ?_)
  exact r_vret C hw rfl () (trivial) rfl (Nat.le_of_ble_eq_true rfl) (Nat.le_of_ble_eq_true rfl) dX8_copyFrom_30

