/-! Book, second half: sums over the orders, the pool, copies -/
def pcE (t : Int32 × Int32 × Int32) : List Value := [.int t.1, .int t.2.1, .int t.2.2]
/-- PoolChoice.consider -/
def pcs (cand d s : Int32) (t : Int32 × Int32 × Int32) : Int32 × Int32 × Int32 := if t.2.1 < mmin d s ∨ (mmin d s = t.2.1 ∧ ¬ t.2.2 ≤ mabs (d - s)) then (cand, mmin d s, mabs (d - s)) else t
def pcR (d s : Int32 → Int32) : Nat → Int32 × Int32 × Int32
  | 0 => (-1, 0, 0)
  | k + 1 => pcs (nI (k + 1)) (d (nI (k + 1))) (s (nI (k + 1))) (pcR d s k)
def poolS (S : SV) (n : Nat) : Int32 × Int32 × Int32 := pcR (fun q => dmd S q n) (fun q => sup S q n) 99
/-- Book.copyFrom -/
def bkC (S T : SV) : SV := sI (sR (sR (sR (sR (sR (sR S 2 (T.2.1 2)) 3 (T.2.1 3)) 4 (T.2.1 4)) 5 (T.2.1 5)) 6 (T.2.1 6)) 7 (T.2.1 7)) 1 (T.1 1)

set_option maxHeartbeats 4000000 in
set_option maxRecDepth 100000 in
theorem k1_spreadOfBest {l : Launch} {G : Gx} (hF : SF l G) {a : Nat → Nat} {S : SV} {X : va_W} {n : Nat} (hc : S.1 1 = nI n) (hn : n ≤ 20) : MI l G yX1_spreadOfBest cX1_spreadOfBest 3 .int 3 0 0 [.ref (a 6)] (stW G a S ++ X) (fun r _ => r = sprS S n) (fun _ : Unit => stW G a S ++ X) := by
  refine mt_of hF (by decide) (Nat.le_of_ble_eq_true rfl) ?_
  intro p e s m below meth c C hin ls hl H locs hw
  have hl : lv_has ls 3 [(0, .ref (a 6))] := hl
  refine lv_aload_n C.1 C.2.1 dX1_spreadOfBest_0 rfl (lv_at hl 0 rfl) ?_
  refine lv_iconst (v := 1) C.1 C.2.1 dX1_spreadOfBest_1 (by decide) ?_
  refine r_vi C hw (k1_bestSlot hF (a := a) (S := S) (X := X) (n := n) hc hn true) ml_X1_64 yf_X1_bestSlot 6 rfl rfl (As := [.int 1]) rfl rfl ⟨Nat.le_of_ble_eq_true rfl, Nat.le_of_ble_eq_true rfl⟩ ⟨Nat.le_of_ble_eq_true rfl, Nat.le_of_ble_eq_true rfl⟩ hl.1 (Nat.le_of_ble_eq_true rfl) dX1_spreadOfBest_2 (fun r_2 _ H locs hp_2 hw => ?_)
  obtain ⟨o_2, ho_2⟩ : ∃ o, o = best S true n := ⟨_, rfl⟩
  obtain rfl : r_2 = oI o_2 := by rw [hp_2, ho_2]
  replace hw : WH G s (stW G a S ++ X) H locs := hw
  refine lv_istore_n (lv' := [(1, .int (oI o_2)), (0, .ref (a 6))]) C.1 C.2.1 dX1_spreadOfBest_5 rfl hl (by decide) rfl (fun ls hl => ?_)
  refine lv_aload_n C.1 C.2.1 dX1_spreadOfBest_6 rfl (lv_at hl 1 rfl) ?_
  refine lv_iconst (v := 0) C.1 C.2.1 dX1_spreadOfBest_7 (by decide) ?_
  refine r_vi C hw (k1_bestSlot hF (a := a) (S := S) (X := X) (n := n) hc hn false) ml_X1_64 yf_X1_bestSlot 6 rfl rfl (As := [.int 0]) rfl rfl ⟨Nat.le_of_ble_eq_true rfl, Nat.le_of_ble_eq_true rfl⟩ ⟨Nat.le_of_ble_eq_true rfl, Nat.le_of_ble_eq_true rfl⟩ hl.1 (Nat.le_of_ble_eq_true rfl) dX1_spreadOfBest_8 (fun r_8 _ H locs hp_8 hw => ?_)
  obtain ⟨o_8, ho_8⟩ : ∃ o, o = best S false n := ⟨_, rfl⟩
  obtain rfl : r_8 = oI o_8 := by rw [hp_8, ho_8]
  replace hw : WH G s (stW G a S ++ X) H locs := hw
  refine lv_istore_n (lv' := [(2, .int (oI o_8)), (1, .int (oI o_2)), (0, .ref (a 6))]) C.1 C.2.1 dX1_spreadOfBest_11 rfl hl (by decide) rfl (fun ls hl => ?_)
  refine lv_iload_n C.1 C.2.1 dX1_spreadOfBest_12 rfl (lv_at hl 1 rfl) ?_
  refine lv_iconst (v := -1) C.1 C.2.1 dX1_spreadOfBest_13 (by decide) ?_
  refine lv_icmp_eq (tgt := 22) C.1 C.2.1 dX1_spreadOfBest_14 (by decide) (fun c_14 => ?_) (fun c_14 => ?_)
  · obtain rfl : o_2 = none := (oI_none (fun q hq => by have := best_lt (ho_2.symm.trans hq); omega)).mp c_14
    replace hl : lv_has ls 3 [(2, .int (oI o_8)), (1, .int (-1)), (0, .ref (a 6))] := hl
    refine lv_sipush (v := 1000) C.1 C.2.1 dX1_spreadOfBest_22 (by decide) ?_
    refine lv_goto (tgt := 45) C.1 C.2.1 dX1_spreadOfBest_25 (by decide) ?_
    exact r_iret C hw rfl rfl () (by rw [sprS, ← ho_2]) rfl (Nat.le_of_ble_eq_true rfl) (Nat.le_of_ble_eq_true rfl) dX1_spreadOfBest_45
  · obtain ⟨i, rfl⟩ : ∃ q, o_2 = some q := by cases o_2 with | none => exact absurd rfl c_14 | some q => exact ⟨q, rfl⟩
    have hi : i < n := best_lt ho_2.symm
    replace hl : lv_has ls 3 [(2, .int (oI o_8)), (1, .int (nI i)), (0, .ref (a 6))] := hl
    refine lv_iload_n C.1 C.2.1 dX1_spreadOfBest_17 rfl (lv_at hl 0 rfl) ?_
    refine lv_iconst (v := -1) C.1 C.2.1 dX1_spreadOfBest_18 (by decide) ?_
    refine lv_icmp_ne (tgt := 28) C.1 C.2.1 dX1_spreadOfBest_19 (by decide) (fun c_19 => ?_) (fun c_19 => ?_)
    · obtain ⟨j, rfl⟩ : ∃ q, o_8 = some q := by cases o_8 with | none => exact absurd rfl c_19 | some q => exact ⟨q, rfl⟩
      have hj : j < n := best_lt ho_8.symm
      replace hl : lv_has ls 3 [(2, .int (nI j)), (1, .int (nI i)), (0, .ref (a 6))] := hl
      refine lv_aload_n C.1 C.2.1 dX1_spreadOfBest_28 rfl (lv_at hl 2 rfl) ?_
      refine r_get C hw 6 rfl rfl in_X1 3 (by decide) fl_X1_26 rfl (v := .ref (a 13)) rfl dX1_spreadOfBest_29 ?_
      refine lv_iload_n C.1 C.2.1 dX1_spreadOfBest_32 rfl (lv_at hl 0 rfl) ?_
      refine r_vi C hw (k7_get hF (strow_5 G a S X) (by decide) (strow_e G a S X 5) (nI j)) ml_X1_39 yf_X7_get 13 rfl rfl (As := [.int (nI j)]) rfl rfl ⟨Nat.le_of_ble_eq_true rfl, Nat.le_of_ble_eq_true rfl⟩ ⟨Nat.le_of_ble_eq_true rfl, Nat.le_of_ble_eq_true rfl⟩ hl.1 (Nat.le_of_ble_eq_true rfl) dX1_spreadOfBest_33 (fun r_33 _ H locs hp_33 hw => ?_)
      obtain rfl : r_33 = ((S.2.1 5) j) := by rw [hp_33]; exact rget_nI (by omega) (by decide)
      replace hw : WH G s (stW G a S ++ X) H locs := hw
      refine lv_aload_n C.1 C.2.1 dX1_spreadOfBest_36 rfl (lv_at hl 2 rfl) ?_
      refine r_get C hw 6 rfl rfl in_X1 3 (by decide) fl_X1_26 rfl (v := .ref (a 13)) rfl dX1_spreadOfBest_37 ?_
      refine lv_iload_n C.1 C.2.1 dX1_spreadOfBest_40 rfl (lv_at hl 1 rfl) ?_
      refine r_vi C hw (k7_get hF (strow_5 G a S X) (by decide) (strow_e G a S X 5) (nI i)) ml_X1_39 yf_X7_get 13 rfl rfl (As := [.int (nI i)]) rfl rfl ⟨Nat.le_of_ble_eq_true rfl, Nat.le_of_ble_eq_true rfl⟩ ⟨Nat.le_of_ble_eq_true rfl, Nat.le_of_ble_eq_true rfl⟩ hl.1 (Nat.le_of_ble_eq_true rfl) dX1_spreadOfBest_41 (fun r_41 _ H locs hp_41 hw => ?_)
      obtain rfl : r_41 = ((S.2.1 5) i) := by rw [hp_41]; exact rget_nI (by omega) (by decide)
      replace hw : WH G s (stW G a S ++ X) H locs := hw
      refine lv_isub C.1 C.2.1 dX1_spreadOfBest_44 ?_
      exact r_iret C hw rfl rfl () (by rw [sprS, ← ho_2, ← ho_8]) rfl (Nat.le_of_ble_eq_true rfl) (Nat.le_of_ble_eq_true rfl) dX1_spreadOfBest_45
    · obtain rfl : o_8 = none := (oI_none (fun q hq => by have := best_lt (ho_8.symm.trans hq); omega)).mp c_19
      replace hl : lv_has ls 3 [(2, .int (-1)), (1, .int (nI i)), (0, .ref (a 6))] := hl
      refine lv_sipush (v := 1000) C.1 C.2.1 dX1_spreadOfBest_22 (by decide) ?_
      refine lv_goto (tgt := 45) C.1 C.2.1 dX1_spreadOfBest_25 (by decide) ?_
      exact r_iret C hw rfl rfl () (by rw [sprS, ← ho_2, ← ho_8]) rfl (Nat.le_of_ble_eq_true rfl) (Nat.le_of_ble_eq_true rfl) dX1_spreadOfBest_45

set_option maxHeartbeats 4000000 in
set_option maxRecDepth 100000 in
theorem k1_buyingOrders {l : Launch} {G : Gx} (hF : SF l G) {a : Nat → Nat} {S : SV} {X : va_W} {n : Nat} (hc : S.1 1 = nI n) (hn : n ≤ 20) : MI l G yX1_buyingOrders cX1_buyingOrders 3 .int 2 0 0 [.ref (a 6)] (stW G a S ++ X) (fun r _ => r = bCnt S n) (fun _ : Unit => stW G a S ++ X) := by
  refine mt_of hF (by decide) (Nat.le_of_ble_eq_true rfl) ?_
  intro p e s m below meth c C hin ls hl H locs hw
  have hl : lv_has ls 3 [(0, .ref (a 6))] := hl
  refine lv_iconst (v := 0) C.1 C.2.1 dX1_buyingOrders_0 (by decide) ?_
  refine lv_istore_n (lv' := [(1, .int 0), (0, .ref (a 6))]) C.1 C.2.1 dX1_buyingOrders_1 rfl hl (by decide) rfl (fun ls hl => ?_)
  refine lv_iconst (v := 0) C.1 C.2.1 dX1_buyingOrders_2 (by decide) ?_
  refine lv_istore_n (lv' := [(2, .int 0), (1, .int 0), (0, .ref (a 6))]) C.1 C.2.1 dX1_buyingOrders_3 rfl hl (by decide) rfl (fun ls hl => ?_)
  refine w_loop (σ := Nat × Int32) G (fun u ⟨k, x1⟩ => k ≤ n ∧ n < k + u ∧ x1 = bS (buyS S) (fun _ => 1) k) (fun ⟨k, x1⟩ => stW G a S ++ X) (fun ⟨k, x1⟩ => 0) (fun ⟨k, x1⟩ => 0) (fun ⟨k, x1⟩ => [(0, .ref (a 6)), (1, .int x1), (2, .int (nI k))]) 3 ?_ ?_ (n + 1) (0, 0) (⟨Nat.zero_le _, by omega, rfl⟩) hw (lv_sub hl [2, 1, 0] rfl)
  · rintro n4 ⟨k, x1⟩ ⟨h1, h2, h3⟩ ih4 H locs hw ls hl
    replace hw : WH G s (stW G a S ++ X) H locs := hw
    replace hl : lv_has ls 3 [(0, .ref (a 6)), (1, .int x1), (2, .int (nI k))] := hl
    refine lv_iload_n C.1 C.2.1 dX1_buyingOrders_4 rfl (lv_at hl 2 rfl) ?_
    refine lv_aload_n C.1 C.2.1 dX1_buyingOrders_5 rfl (lv_at hl 0 rfl) ?_
    refine r_get C hw 6 rfl rfl in_X1 6 (by decide) fl_X1_35 rfl (v := .int (S.1 1)) rfl dX1_buyingOrders_6 ?_
    refine r_toe (show _ = nI n from hc) ?_
    refine lv_icmp_ge (tgt := 29) C.1 C.2.1 dX1_buyingOrders_9 (by decide) (fun c_9 => ?_) (fun c_9 => ?_)
    · obtain rfl := le_T h1 (by omega) c_9
      refine lv_iload_n C.1 C.2.1 dX1_buyingOrders_29 rfl (lv_at hl 1 rfl) ?_
      exact r_iret C hw rfl rfl () (by rw [h3]; rfl) rfl (Nat.le_of_ble_eq_true rfl) (Nat.le_of_ble_eq_true rfl) dX1_buyingOrders_30
    · have hk := le_F h1 (by omega) c_9
      refine lv_aload_n C.1 C.2.1 dX1_buyingOrders_12 rfl (lv_at hl 0 rfl) ?_
      refine lv_iload_n C.1 C.2.1 dX1_buyingOrders_13 rfl (lv_at hl 2 rfl) ?_
      refine r_vi C hw (k1_buys hF (a := a) (S := S) (X := X) (j := k) (by omega)) ml_X1_56 yf_X1_buys 6 rfl rfl (As := [.int (nI k)]) rfl rfl ⟨Nat.le_of_ble_eq_true rfl, Nat.le_of_ble_eq_true rfl⟩ ⟨Nat.le_of_ble_eq_true rfl, Nat.le_of_ble_eq_true rfl⟩ hl.1 (Nat.le_of_ble_eq_true rfl) dX1_buyingOrders_14 (fun r_14 _ H locs hp_14 hw => ?_)
      obtain rfl : r_14 = bI (buyS S k) := hp_14
      replace hw : WH G s (stW G a S ++ X) H locs := hw
      refine lv_if_eq (tgt := 23) C.1 C.2.1 dX1_buyingOrders_17 (by decide) (fun c_17 => ?_) (fun c_17 => ?_)
      · have b_17 := bI_eq0.mp c_17
        refine lv_iinc (v := nI (k + 1)) (lv' := [(2, .int (nI (k + 1))), (0, .ref (a 6)), (1, .int x1)]) C.1 C.2.1 dX1_buyingOrders_23 hl (k := 2) rfl (inc_nI k) (by decide) rfl (fun ls hl => ?_)
        refine lv_goto (tgt := 4) C.1 C.2.1 dX1_buyingOrders_26 (by decide) ?_
        exact ih4 (k + 1, x1) (⟨by omega, by omega, bS_f h3 (by simp [b_17])⟩) _ _ hw _ (lv_sub hl [1, 2, 0] rfl)
      · have b_17 := bI_ne0.mp c_17
        refine lv_iinc (v := x1 + 1) (lv' := [(1, .int (x1 + 1)), (0, .ref (a 6)), (2, .int (nI k))]) C.1 C.2.1 dX1_buyingOrders_20 hl (k := 1) rfl (by rw [lit1]) (by decide) rfl (fun ls hl => ?_)
        refine lv_iinc (v := nI (k + 1)) (lv' := [(2, .int (nI (k + 1))), (1, .int (x1 + 1)), (0, .ref (a 6))]) C.1 C.2.1 dX1_buyingOrders_23 hl (k := 2) rfl (inc_nI k) (by decide) rfl (fun ls hl => ?_)
        refine lv_goto (tgt := 4) C.1 C.2.1 dX1_buyingOrders_26 (by decide) ?_
        exact ih4 (k + 1, (x1 + 1)) (⟨by omega, by omega, bS_t h3 (by simp [b_17])⟩) _ _ hw _ (lv_sub hl [2, 1, 0] rfl)
  · rintro ⟨k, x1⟩ ⟨h1, h2, h3⟩; omega

set_option maxHeartbeats 4000000 in
set_option maxRecDepth 100000 in
theorem k1_quantityAt {l : Launch} {G : Gx} (hF : SF l G) {a : Nat → Nat} {S : SV} {X : va_W} {n : Nat} (hc : S.1 1 = nI n) (hn : n ≤ 20) (b : Bool) (pr : Int32) : MI l G yX1_quantityAt cX1_quantityAt 5 .int 2 0 0 [.ref (a 6), .int (bI b), .int pr] (stW G a S ++ X) (fun r _ => r = qAt S b pr n) (fun _ : Unit => stW G a S ++ X) := by
  refine mt_of hF (by decide) (Nat.le_of_ble_eq_true rfl) ?_
  intro p e s m below meth c C hin ls hl H locs hw
  have hl : lv_has ls 5 [(0, .ref (a 6)), (1, .int (bI b)), (2, .int pr)] := hl
  refine lv_iconst (v := 0) C.1 C.2.1 dX1_quantityAt_0 (by decide) ?_
  refine lv_istore_n (lv' := [(3, .int 0), (0, .ref (a 6)), (1, .int (bI b)), (2, .int pr)]) C.1 C.2.1 dX1_quantityAt_1 rfl hl (by decide) rfl (fun ls hl => ?_)
  refine lv_iconst (v := 0) C.1 C.2.1 dX1_quantityAt_2 (by decide) ?_
  refine lv_istore (lv' := [(4, .int 0), (3, .int 0), (0, .ref (a 6)), (1, .int (bI b)), (2, .int pr)]) C.1 C.2.1 dX1_quantityAt_3 hl (by decide) rfl (fun ls hl => ?_)
  refine w_loop (σ := Nat × Int32) G (fun u ⟨k, x1⟩ => k ≤ n ∧ n < k + u ∧ x1 = bS (fun k => decide (buyS S k = b) && decide (S.2.1 5 k = pr)) (S.2.1 6) k) (fun ⟨k, x1⟩ => stW G a S ++ X) (fun ⟨k, x1⟩ => 0) (fun ⟨k, x1⟩ => 0) (fun ⟨k, x1⟩ => [(0, .ref (a 6)), (1, .int (bI b)), (2, .int pr), (3, .int x1), (4, .int (nI k))]) 5 ?_ ?_ (n + 1) (0, 0) (⟨Nat.zero_le _, by omega, rfl⟩) hw (lv_sub hl [2, 3, 4, 1, 0] rfl)
  · rintro n5 ⟨k, x1⟩ ⟨h1, h2, h3⟩ ih5 H locs hw ls hl
    replace hw : WH G s (stW G a S ++ X) H locs := hw
    replace hl : lv_has ls 5 [(0, .ref (a 6)), (1, .int (bI b)), (2, .int pr), (3, .int x1), (4, .int (nI k))] := hl
    refine lv_iload C.1 C.2.1 dX1_quantityAt_5 (lv_at hl 4 rfl) ?_
    refine lv_aload_n C.1 C.2.1 dX1_quantityAt_7 rfl (lv_at hl 0 rfl) ?_
    refine r_get C hw 6 rfl rfl in_X1 6 (by decide) fl_X1_35 rfl (v := .int (S.1 1)) rfl dX1_quantityAt_8 ?_
    refine r_toe (show _ = nI n from hc) ?_
    refine lv_icmp_ge (tgt := 55) C.1 C.2.1 dX1_quantityAt_11 (by decide) (fun c_11 => ?_) (fun c_11 => ?_)
    · obtain rfl := le_T h1 (by omega) c_11
      refine lv_iload_n C.1 C.2.1 dX1_quantityAt_55 rfl (lv_at hl 3 rfl) ?_
      exact r_iret C hw rfl rfl () (by rw [h3]; rfl) rfl (Nat.le_of_ble_eq_true rfl) (Nat.le_of_ble_eq_true rfl) dX1_quantityAt_56
    · have hk := le_F h1 (by omega) c_11
      refine lv_aload_n C.1 C.2.1 dX1_quantityAt_14 rfl (lv_at hl 0 rfl) ?_
      refine lv_iload C.1 C.2.1 dX1_quantityAt_15 (lv_at hl 4 rfl) ?_
      refine r_vi C hw (k1_buys hF (a := a) (S := S) (X := X) (j := k) (by omega)) ml_X1_56 yf_X1_buys 6 rfl rfl (As := [.int (nI k)]) rfl rfl ⟨Nat.le_of_ble_eq_true rfl, Nat.le_of_ble_eq_true rfl⟩ ⟨Nat.le_of_ble_eq_true rfl, Nat.le_of_ble_eq_true rfl⟩ hl.1 (Nat.le_of_ble_eq_true rfl) dX1_quantityAt_17 (fun r_17 _ H locs hp_17 hw => ?_)
      obtain rfl : r_17 = bI (buyS S k) := hp_17
      replace hw : WH G s (stW G a S ++ X) H locs := hw
      refine lv_iload_n C.1 C.2.1 dX1_quantityAt_20 rfl (lv_at hl 1 rfl) ?_
      refine lv_icmp_ne (tgt := 49) C.1 C.2.1 dX1_quantityAt_21 (by decide) (fun c_21 => ?_) (fun c_21 => ?_)
      · have b_21 : ¬ buyS S k = b := fun h => c_21 (by rw [h])
        refine lv_iinc (v := nI (k + 1)) (lv' := [(4, .int (nI (k + 1))), (0, .ref (a 6)), (1, .int (bI b)), (2, .int pr), (3, .int x1)]) C.1 C.2.1 dX1_quantityAt_49 hl (k := 4) rfl (inc_nI k) (by decide) rfl (fun ls hl => ?_)
        refine lv_goto (tgt := 5) C.1 C.2.1 dX1_quantityAt_52 (by decide) ?_
        exact ih5 (k + 1, x1) (⟨by omega, by omega, bS_f h3 (by simp [b_21])⟩) _ _ hw _ (lv_sub hl [1, 2, 3, 4, 0] rfl)
      · have b_21 : buyS S k = b := bI_inj.mp c_21
        refine lv_aload_n C.1 C.2.1 dX1_quantityAt_24 rfl (lv_at hl 0 rfl) ?_
        refine r_get C hw 6 rfl rfl in_X1 3 (by decide) fl_X1_26 rfl (v := .ref (a 13)) rfl dX1_quantityAt_25 ?_
        refine lv_iload C.1 C.2.1 dX1_quantityAt_28 (lv_at hl 4 rfl) ?_
        refine r_vi C hw (k7_get hF (strow_5 G a S X) (by decide) (strow_e G a S X 5) (nI k)) ml_X1_39 yf_X7_get 13 rfl rfl (As := [.int (nI k)]) rfl rfl ⟨Nat.le_of_ble_eq_true rfl, Nat.le_of_ble_eq_true rfl⟩ ⟨Nat.le_of_ble_eq_true rfl, Nat.le_of_ble_eq_true rfl⟩ hl.1 (Nat.le_of_ble_eq_true rfl) dX1_quantityAt_30 (fun r_30 _ H locs hp_30 hw => ?_)
        obtain rfl : r_30 = ((S.2.1 5) k) := by rw [hp_30]; exact rget_nI (by omega) (by decide)
        replace hw : WH G s (stW G a S ++ X) H locs := hw
        refine lv_iload_n C.1 C.2.1 dX1_quantityAt_33 rfl (lv_at hl 2 rfl) ?_
        refine lv_icmp_ne (tgt := 49) C.1 C.2.1 dX1_quantityAt_34 (by decide) (fun c_34 => ?_) (fun c_34 => ?_)
        · refine lv_iinc (v := nI (k + 1)) (lv' := [(4, .int (nI (k + 1))), (0, .ref (a 6)), (1, .int (bI b)), (2, .int pr), (3, .int x1)]) C.1 C.2.1 dX1_quantityAt_49 hl (k := 4) rfl (inc_nI k) (by decide) rfl (fun ls hl => ?_)
          refine lv_goto (tgt := 5) C.1 C.2.1 dX1_quantityAt_52 (by decide) ?_
          exact ih5 (k + 1, x1) (⟨by omega, by omega, bS_f h3 (by simp [b_21, c_34])⟩) _ _ hw _ (lv_sub hl [1, 2, 3, 4, 0] rfl)
        · refine lv_iload_n C.1 C.2.1 dX1_quantityAt_37 rfl (lv_at hl 3 rfl) ?_
          refine lv_aload_n C.1 C.2.1 dX1_quantityAt_38 rfl (lv_at hl 0 rfl) ?_
          refine r_get C hw 6 rfl rfl in_X1 4 (by decide) fl_X1_29 rfl (v := .ref (a 15)) rfl dX1_quantityAt_39 ?_
          refine lv_iload C.1 C.2.1 dX1_quantityAt_42 (lv_at hl 4 rfl) ?_
          refine r_vi C hw (k7_get hF (strow_6 G a S X) (by decide) (strow_e G a S X 6) (nI k)) ml_X1_39 yf_X7_get 15 rfl rfl (As := [.int (nI k)]) rfl rfl ⟨Nat.le_of_ble_eq_true rfl, Nat.le_of_ble_eq_true rfl⟩ ⟨Nat.le_of_ble_eq_true rfl, Nat.le_of_ble_eq_true rfl⟩ hl.1 (Nat.le_of_ble_eq_true rfl) dX1_quantityAt_44 (fun r_44 _ H locs hp_44 hw => ?_)
          obtain rfl : r_44 = ((S.2.1 6) k) := by rw [hp_44]; exact rget_nI (by omega) (by decide)
          replace hw : WH G s (stW G a S ++ X) H locs := hw
          refine lv_iadd C.1 C.2.1 dX1_quantityAt_47 ?_
          refine lv_istore_n (lv' := [(3, .int (x1 + ((S.2.1 6) k))), (0, .ref (a 6)), (1, .int (bI b)), (2, .int pr), (4, .int (nI k))]) C.1 C.2.1 dX1_quantityAt_48 rfl hl (by decide) rfl (fun ls hl => ?_)
          refine lv_iinc (v := nI (k + 1)) (lv' := [(4, .int (nI (k + 1))), (3, .int (x1 + ((S.2.1 6) k))), (0, .ref (a 6)), (1, .int (bI b)), (2, .int pr)]) C.1 C.2.1 dX1_quantityAt_49 hl (k := 4) rfl (inc_nI k) (by decide) rfl (fun ls hl => ?_)
          refine lv_goto (tgt := 5) C.1 C.2.1 dX1_quantityAt_52 (by decide) ?_
          exact ih5 (k + 1, (x1 + ((S.2.1 6) k))) (⟨by omega, by omega, bS_t h3 (by simp [b_21, c_34])⟩) _ _ hw _ (lv_sub hl [2, 3, 4, 1, 0] rfl)
  · rintro ⟨k, x1⟩ ⟨h1, h2, h3⟩; omega

set_option maxHeartbeats 4000000 in
set_option maxRecDepth 100000 in
theorem k1_boundMoney {l : Launch} {G : Gx} (hF : SF l G) {a : Nat → Nat} {S : SV} {X : va_W} {n : Nat} (hc : S.1 1 = nI n) (hn : n ≤ 20) (st : Int32) : MI l G yX1_boundMoney cX1_boundMoney 4 .int 2 0 0 [.ref (a 6), .int st] (stW G a S ++ X) (fun r _ => r = bndM S st n) (fun _ : Unit => stW G a S ++ X) := by
  refine mt_of hF (by decide) (Nat.le_of_ble_eq_true rfl) ?_
  intro p e s m below meth c C hin ls hl H locs hw
  have hl : lv_has ls 4 [(0, .ref (a 6)), (1, .int st)] := hl
  refine lv_iconst (v := 0) C.1 C.2.1 dX1_boundMoney_0 (by decide) ?_
  refine lv_istore_n (lv' := [(2, .int 0), (0, .ref (a 6)), (1, .int st)]) C.1 C.2.1 dX1_boundMoney_1 rfl hl (by decide) rfl (fun ls hl => ?_)
  refine lv_iconst (v := 0) C.1 C.2.1 dX1_boundMoney_2 (by decide) ?_
  refine lv_istore_n (lv' := [(3, .int 0), (2, .int 0), (0, .ref (a 6)), (1, .int st)]) C.1 C.2.1 dX1_boundMoney_3 rfl hl (by decide) rfl (fun ls hl => ?_)
  refine w_loop (σ := Nat × Int32) G (fun u ⟨k, x1⟩ => k ≤ n ∧ n < k + u ∧ x1 = bS (fun k => buyS S k && decide (S.2.1 3 k = st)) (fun k => S.2.1 5 k * S.2.1 6 k) k) (fun ⟨k, x1⟩ => stW G a S ++ X) (fun ⟨k, x1⟩ => 0) (fun ⟨k, x1⟩ => 0) (fun ⟨k, x1⟩ => [(0, .ref (a 6)), (1, .int st), (2, .int x1), (3, .int (nI k))]) 4 ?_ ?_ (n + 1) (0, 0) (⟨Nat.zero_le _, by omega, rfl⟩) hw (lv_sub hl [2, 3, 1, 0] rfl)
  · rintro n4 ⟨k, x1⟩ ⟨h1, h2, h3⟩ ih4 H locs hw ls hl
    replace hw : WH G s (stW G a S ++ X) H locs := hw
    replace hl : lv_has ls 4 [(0, .ref (a 6)), (1, .int st), (2, .int x1), (3, .int (nI k))] := hl
    refine lv_iload_n C.1 C.2.1 dX1_boundMoney_4 rfl (lv_at hl 3 rfl) ?_
    refine lv_aload_n C.1 C.2.1 dX1_boundMoney_5 rfl (lv_at hl 0 rfl) ?_
    refine r_get C hw 6 rfl rfl in_X1 6 (by decide) fl_X1_35 rfl (v := .int (S.1 1)) rfl dX1_boundMoney_6 ?_
    refine r_toe (show _ = nI n from hc) ?_
    refine lv_icmp_ge (tgt := 58) C.1 C.2.1 dX1_boundMoney_9 (by decide) (fun c_9 => ?_) (fun c_9 => ?_)
    · obtain rfl := le_T h1 (by omega) c_9
      refine lv_iload_n C.1 C.2.1 dX1_boundMoney_58 rfl (lv_at hl 2 rfl) ?_
      exact r_iret C hw rfl rfl () (by rw [h3]; rfl) rfl (Nat.le_of_ble_eq_true rfl) (Nat.le_of_ble_eq_true rfl) dX1_boundMoney_59
    · have hk := le_F h1 (by omega) c_9
      refine lv_aload_n C.1 C.2.1 dX1_boundMoney_12 rfl (lv_at hl 0 rfl) ?_
      refine lv_iload_n C.1 C.2.1 dX1_boundMoney_13 rfl (lv_at hl 3 rfl) ?_
      refine r_vi C hw (k1_buys hF (a := a) (S := S) (X := X) (j := k) (by omega)) ml_X1_56 yf_X1_buys 6 rfl rfl (As := [.int (nI k)]) rfl rfl ⟨Nat.le_of_ble_eq_true rfl, Nat.le_of_ble_eq_true rfl⟩ ⟨Nat.le_of_ble_eq_true rfl, Nat.le_of_ble_eq_true rfl⟩ hl.1 (Nat.le_of_ble_eq_true rfl) dX1_boundMoney_14 (fun r_14 _ H locs hp_14 hw => ?_)
      obtain rfl : r_14 = bI (buyS S k) := hp_14
      replace hw : WH G s (stW G a S ++ X) H locs := hw
      refine lv_if_eq (tgt := 52) C.1 C.2.1 dX1_boundMoney_17 (by decide) (fun c_17 => ?_) (fun c_17 => ?_)
      · have b_17 := bI_eq0.mp c_17
        refine lv_iinc (v := nI (k + 1)) (lv' := [(3, .int (nI (k + 1))), (0, .ref (a 6)), (1, .int st), (2, .int x1)]) C.1 C.2.1 dX1_boundMoney_52 hl (k := 3) rfl (inc_nI k) (by decide) rfl (fun ls hl => ?_)
        refine lv_goto (tgt := 4) C.1 C.2.1 dX1_boundMoney_55 (by decide) ?_
        exact ih4 (k + 1, x1) (⟨by omega, by omega, bS_f h3 (by simp [b_17])⟩) _ _ hw _ (lv_sub hl [1, 2, 3, 0] rfl)
      · have b_17 := bI_ne0.mp c_17
        refine lv_aload_n C.1 C.2.1 dX1_boundMoney_20 rfl (lv_at hl 0 rfl) ?_
        refine r_get C hw 6 rfl rfl in_X1 1 (by decide) fl_X1_20 rfl (v := .ref (a 9)) rfl dX1_boundMoney_21 ?_
        refine lv_iload_n C.1 C.2.1 dX1_boundMoney_24 rfl (lv_at hl 3 rfl) ?_
        refine r_vi C hw (k7_get hF (strow_3 G a S X) (by decide) (strow_e G a S X 3) (nI k)) ml_X1_39 yf_X7_get 9 rfl rfl (As := [.int (nI k)]) rfl rfl ⟨Nat.le_of_ble_eq_true rfl, Nat.le_of_ble_eq_true rfl⟩ ⟨Nat.le_of_ble_eq_true rfl, Nat.le_of_ble_eq_true rfl⟩ hl.1 (Nat.le_of_ble_eq_true rfl) dX1_boundMoney_25 (fun r_25 _ H locs hp_25 hw => ?_)
        obtain rfl : r_25 = ((S.2.1 3) k) := by rw [hp_25]; exact rget_nI (by omega) (by decide)
        replace hw : WH G s (stW G a S ++ X) H locs := hw
        refine lv_iload_n C.1 C.2.1 dX1_boundMoney_28 rfl (lv_at hl 1 rfl) ?_
        refine lv_icmp_ne (tgt := 52) C.1 C.2.1 dX1_boundMoney_29 (by decide) (fun c_29 => ?_) (fun c_29 => ?_)
        · refine lv_iinc (v := nI (k + 1)) (lv' := [(3, .int (nI (k + 1))), (0, .ref (a 6)), (1, .int st), (2, .int x1)]) C.1 C.2.1 dX1_boundMoney_52 hl (k := 3) rfl (inc_nI k) (by decide) rfl (fun ls hl => ?_)
          refine lv_goto (tgt := 4) C.1 C.2.1 dX1_boundMoney_55 (by decide) ?_
          exact ih4 (k + 1, x1) (⟨by omega, by omega, bS_f h3 (by simp [b_17, c_29])⟩) _ _ hw _ (lv_sub hl [1, 2, 3, 0] rfl)
        · refine lv_iload_n C.1 C.2.1 dX1_boundMoney_32 rfl (lv_at hl 2 rfl) ?_
          refine lv_aload_n C.1 C.2.1 dX1_boundMoney_33 rfl (lv_at hl 0 rfl) ?_
          refine r_get C hw 6 rfl rfl in_X1 3 (by decide) fl_X1_26 rfl (v := .ref (a 13)) rfl dX1_boundMoney_34 ?_
          refine lv_iload_n C.1 C.2.1 dX1_boundMoney_37 rfl (lv_at hl 3 rfl) ?_
          refine r_vi C hw (k7_get hF (strow_5 G a S X) (by decide) (strow_e G a S X 5) (nI k)) ml_X1_39 yf_X7_get 13 rfl rfl (As := [.int (nI k)]) rfl rfl ⟨Nat.le_of_ble_eq_true rfl, Nat.le_of_ble_eq_true rfl⟩ ⟨Nat.le_of_ble_eq_true rfl, Nat.le_of_ble_eq_true rfl⟩ hl.1 (Nat.le_of_ble_eq_true rfl) dX1_boundMoney_38 (fun r_38 _ H locs hp_38 hw => ?_)
          obtain rfl : r_38 = ((S.2.1 5) k) := by rw [hp_38]; exact rget_nI (by omega) (by decide)
          replace hw : WH G s (stW G a S ++ X) H locs := hw
          refine lv_aload_n C.1 C.2.1 dX1_boundMoney_41 rfl (lv_at hl 0 rfl) ?_
          refine r_get C hw 6 rfl rfl in_X1 4 (by decide) fl_X1_29 rfl (v := .ref (a 15)) rfl dX1_boundMoney_42 ?_
          refine lv_iload_n C.1 C.2.1 dX1_boundMoney_45 rfl (lv_at hl 3 rfl) ?_
          refine r_vi C hw (k7_get hF (strow_6 G a S X) (by decide) (strow_e G a S X 6) (nI k)) ml_X1_39 yf_X7_get 15 rfl rfl (As := [.int (nI k)]) rfl rfl ⟨Nat.le_of_ble_eq_true rfl, Nat.le_of_ble_eq_true rfl⟩ ⟨Nat.le_of_ble_eq_true rfl, Nat.le_of_ble_eq_true rfl⟩ hl.1 (Nat.le_of_ble_eq_true rfl) dX1_boundMoney_46 (fun r_46 _ H locs hp_46 hw => ?_)
          obtain rfl : r_46 = ((S.2.1 6) k) := by rw [hp_46]; exact rget_nI (by omega) (by decide)
          replace hw : WH G s (stW G a S ++ X) H locs := hw
          refine lv_imul C.1 C.2.1 dX1_boundMoney_49 ?_
          refine lv_iadd C.1 C.2.1 dX1_boundMoney_50 ?_
          refine lv_istore_n (lv' := [(2, .int (x1 + (((S.2.1 5) k) * ((S.2.1 6) k)))), (0, .ref (a 6)), (1, .int st), (3, .int (nI k))]) C.1 C.2.1 dX1_boundMoney_51 rfl hl (by decide) rfl (fun ls hl => ?_)
          refine lv_iinc (v := nI (k + 1)) (lv' := [(3, .int (nI (k + 1))), (2, .int (x1 + (((S.2.1 5) k) * ((S.2.1 6) k)))), (0, .ref (a 6)), (1, .int st)]) C.1 C.2.1 dX1_boundMoney_52 hl (k := 3) rfl (inc_nI k) (by decide) rfl (fun ls hl => ?_)
          refine lv_goto (tgt := 4) C.1 C.2.1 dX1_boundMoney_55 (by decide) ?_
          exact ih4 (k + 1, (x1 + (((S.2.1 5) k) * ((S.2.1 6) k)))) (⟨by omega, by omega, bS_t h3 (by simp [b_17, c_29])⟩) _ _ hw _ (lv_sub hl [2, 3, 1, 0] rfl)
  · rintro ⟨k, x1⟩ ⟨h1, h2, h3⟩; omega

set_option maxHeartbeats 4000000 in
set_option maxRecDepth 100000 in
theorem k1_boundDrops {l : Launch} {G : Gx} (hF : SF l G) {a : Nat → Nat} {S : SV} {X : va_W} {n : Nat} (hc : S.1 1 = nI n) (hn : n ≤ 20) (st : Int32) : MI l G yX1_boundDrops cX1_boundDrops 4 .int 2 0 0 [.ref (a 6), .int st] (stW G a S ++ X) (fun r _ => r = bndD S st n) (fun _ : Unit => stW G a S ++ X) := by
  refine mt_of hF (by decide) (Nat.le_of_ble_eq_true rfl) ?_
  intro p e s m below meth c C hin ls hl H locs hw
  have hl : lv_has ls 4 [(0, .ref (a 6)), (1, .int st)] := hl
  refine lv_iconst (v := 0) C.1 C.2.1 dX1_boundDrops_0 (by decide) ?_
  refine lv_istore_n (lv' := [(2, .int 0), (0, .ref (a 6)), (1, .int st)]) C.1 C.2.1 dX1_boundDrops_1 rfl hl (by decide) rfl (fun ls hl => ?_)
  refine lv_iconst (v := 0) C.1 C.2.1 dX1_boundDrops_2 (by decide) ?_
  refine lv_istore_n (lv' := [(3, .int 0), (2, .int 0), (0, .ref (a 6)), (1, .int st)]) C.1 C.2.1 dX1_boundDrops_3 rfl hl (by decide) rfl (fun ls hl => ?_)
  refine w_loop (σ := Nat × Int32) G (fun u ⟨k, x1⟩ => k ≤ n ∧ n < k + u ∧ x1 = bS (fun k => !buyS S k && decide (S.2.1 3 k = st)) (S.2.1 6) k) (fun ⟨k, x1⟩ => stW G a S ++ X) (fun ⟨k, x1⟩ => 0) (fun ⟨k, x1⟩ => 0) (fun ⟨k, x1⟩ => [(0, .ref (a 6)), (1, .int st), (2, .int x1), (3, .int (nI k))]) 4 ?_ ?_ (n + 1) (0, 0) (⟨Nat.zero_le _, by omega, rfl⟩) hw (lv_sub hl [2, 3, 1, 0] rfl)
  · rintro n4 ⟨k, x1⟩ ⟨h1, h2, h3⟩ ih4 H locs hw ls hl
    replace hw : WH G s (stW G a S ++ X) H locs := hw
    replace hl : lv_has ls 4 [(0, .ref (a 6)), (1, .int st), (2, .int x1), (3, .int (nI k))] := hl
    refine lv_iload_n C.1 C.2.1 dX1_boundDrops_4 rfl (lv_at hl 3 rfl) ?_
    refine lv_aload_n C.1 C.2.1 dX1_boundDrops_5 rfl (lv_at hl 0 rfl) ?_
    refine r_get C hw 6 rfl rfl in_X1 6 (by decide) fl_X1_35 rfl (v := .int (S.1 1)) rfl dX1_boundDrops_6 ?_
    refine r_toe (show _ = nI n from hc) ?_
    refine lv_icmp_ge (tgt := 49) C.1 C.2.1 dX1_boundDrops_9 (by decide) (fun c_9 => ?_) (fun c_9 => ?_)
    · obtain rfl := le_T h1 (by omega) c_9
      refine lv_iload_n C.1 C.2.1 dX1_boundDrops_49 rfl (lv_at hl 2 rfl) ?_
      exact r_iret C hw rfl rfl () (by rw [h3]; rfl) rfl (Nat.le_of_ble_eq_true rfl) (Nat.le_of_ble_eq_true rfl) dX1_boundDrops_50
    · have hk := le_F h1 (by omega) c_9
      refine lv_aload_n C.1 C.2.1 dX1_boundDrops_12 rfl (lv_at hl 0 rfl) ?_
      refine lv_iload_n C.1 C.2.1 dX1_boundDrops_13 rfl (lv_at hl 3 rfl) ?_
      refine r_vi C hw (k1_buys hF (a := a) (S := S) (X := X) (j := k) (by omega)) ml_X1_56 yf_X1_buys 6 rfl rfl (As := [.int (nI k)]) rfl rfl ⟨Nat.le_of_ble_eq_true rfl, Nat.le_of_ble_eq_true rfl⟩ ⟨Nat.le_of_ble_eq_true rfl, Nat.le_of_ble_eq_true rfl⟩ hl.1 (Nat.le_of_ble_eq_true rfl) dX1_boundDrops_14 (fun r_14 _ H locs hp_14 hw => ?_)
      obtain rfl : r_14 = bI (buyS S k) := hp_14
      replace hw : WH G s (stW G a S ++ X) H locs := hw
      refine lv_if_ne (tgt := 43) C.1 C.2.1 dX1_boundDrops_17 (by decide) (fun c_17 => ?_) (fun c_17 => ?_)
      · have b_17 := bI_ne0.mp c_17
        refine lv_iinc (v := nI (k + 1)) (lv' := [(3, .int (nI (k + 1))), (0, .ref (a 6)), (1, .int st), (2, .int x1)]) C.1 C.2.1 dX1_boundDrops_43 hl (k := 3) rfl (inc_nI k) (by decide) rfl (fun ls hl => ?_)
        refine lv_goto (tgt := 4) C.1 C.2.1 dX1_boundDrops_46 (by decide) ?_
        exact ih4 (k + 1, x1) (⟨by omega, by omega, bS_f h3 (by simp [b_17])⟩) _ _ hw _ (lv_sub hl [1, 2, 3, 0] rfl)
      · have b_17 := bI_eq0.mp c_17
        refine lv_aload_n C.1 C.2.1 dX1_boundDrops_20 rfl (lv_at hl 0 rfl) ?_
        refine r_get C hw 6 rfl rfl in_X1 1 (by decide) fl_X1_20 rfl (v := .ref (a 9)) rfl dX1_boundDrops_21 ?_
        refine lv_iload_n C.1 C.2.1 dX1_boundDrops_24 rfl (lv_at hl 3 rfl) ?_
        refine r_vi C hw (k7_get hF (strow_3 G a S X) (by decide) (strow_e G a S X 3) (nI k)) ml_X1_39 yf_X7_get 9 rfl rfl (As := [.int (nI k)]) rfl rfl ⟨Nat.le_of_ble_eq_true rfl, Nat.le_of_ble_eq_true rfl⟩ ⟨Nat.le_of_ble_eq_true rfl, Nat.le_of_ble_eq_true rfl⟩ hl.1 (Nat.le_of_ble_eq_true rfl) dX1_boundDrops_25 (fun r_25 _ H locs hp_25 hw => ?_)
        obtain rfl : r_25 = ((S.2.1 3) k) := by rw [hp_25]; exact rget_nI (by omega) (by decide)
        replace hw : WH G s (stW G a S ++ X) H locs := hw
        refine lv_iload_n C.1 C.2.1 dX1_boundDrops_28 rfl (lv_at hl 1 rfl) ?_
        refine lv_icmp_ne (tgt := 43) C.1 C.2.1 dX1_boundDrops_29 (by decide) (fun c_29 => ?_) (fun c_29 => ?_)
        · refine lv_iinc (v := nI (k + 1)) (lv' := [(3, .int (nI (k + 1))), (0, .ref (a 6)), (1, .int st), (2, .int x1)]) C.1 C.2.1 dX1_boundDrops_43 hl (k := 3) rfl (inc_nI k) (by decide) rfl (fun ls hl => ?_)
          refine lv_goto (tgt := 4) C.1 C.2.1 dX1_boundDrops_46 (by decide) ?_
          exact ih4 (k + 1, x1) (⟨by omega, by omega, bS_f h3 (by simp [b_17, c_29])⟩) _ _ hw _ (lv_sub hl [1, 2, 3, 0] rfl)
        · refine lv_iload_n C.1 C.2.1 dX1_boundDrops_32 rfl (lv_at hl 2 rfl) ?_
          refine lv_aload_n C.1 C.2.1 dX1_boundDrops_33 rfl (lv_at hl 0 rfl) ?_
          refine r_get C hw 6 rfl rfl in_X1 4 (by decide) fl_X1_29 rfl (v := .ref (a 15)) rfl dX1_boundDrops_34 ?_
          refine lv_iload_n C.1 C.2.1 dX1_boundDrops_37 rfl (lv_at hl 3 rfl) ?_
          refine r_vi C hw (k7_get hF (strow_6 G a S X) (by decide) (strow_e G a S X 6) (nI k)) ml_X1_39 yf_X7_get 15 rfl rfl (As := [.int (nI k)]) rfl rfl ⟨Nat.le_of_ble_eq_true rfl, Nat.le_of_ble_eq_true rfl⟩ ⟨Nat.le_of_ble_eq_true rfl, Nat.le_of_ble_eq_true rfl⟩ hl.1 (Nat.le_of_ble_eq_true rfl) dX1_boundDrops_38 (fun r_38 _ H locs hp_38 hw => ?_)
          obtain rfl : r_38 = ((S.2.1 6) k) := by rw [hp_38]; exact rget_nI (by omega) (by decide)
          replace hw : WH G s (stW G a S ++ X) H locs := hw
          refine lv_iadd C.1 C.2.1 dX1_boundDrops_41 ?_
          refine lv_istore_n (lv' := [(2, .int (x1 + ((S.2.1 6) k))), (0, .ref (a 6)), (1, .int st), (3, .int (nI k))]) C.1 C.2.1 dX1_boundDrops_42 rfl hl (by decide) rfl (fun ls hl => ?_)
          refine lv_iinc (v := nI (k + 1)) (lv' := [(3, .int (nI (k + 1))), (2, .int (x1 + ((S.2.1 6) k))), (0, .ref (a 6)), (1, .int st)]) C.1 C.2.1 dX1_boundDrops_43 hl (k := 3) rfl (inc_nI k) (by decide) rfl (fun ls hl => ?_)
          refine lv_goto (tgt := 4) C.1 C.2.1 dX1_boundDrops_46 (by decide) ?_
          exact ih4 (k + 1, (x1 + ((S.2.1 6) k))) (⟨by omega, by omega, bS_t h3 (by simp [b_17, c_29])⟩) _ _ hw _ (lv_sub hl [2, 3, 1, 0] rfl)
  · rintro ⟨k, x1⟩ ⟨h1, h2, h3⟩; omega

set_option maxHeartbeats 4000000 in
set_option maxRecDepth 100000 in
theorem k1_demand {l : Launch} {G : Gx} (hF : SF l G) {a : Nat → Nat} {S : SV} {X : va_W} {n : Nat} (hc : S.1 1 = nI n) (hn : n ≤ 20) (pr : Int32) : MI l G yX1_demand cX1_demand 4 .int 2 0 0 [.ref (a 6), .int pr] (stW G a S ++ X) (fun r _ => r = dmd S pr n) (fun _ : Unit => stW G a S ++ X) := by
  refine mt_of hF (by decide) (Nat.le_of_ble_eq_true rfl) ?_
  intro p e s m below meth c C hin ls hl H locs hw
  have hl : lv_has ls 4 [(0, .ref (a 6)), (1, .int pr)] := hl
  refine lv_iconst (v := 0) C.1 C.2.1 dX1_demand_0 (by decide) ?_
  refine lv_istore_n (lv' := [(2, .int 0), (0, .ref (a 6)), (1, .int pr)]) C.1 C.2.1 dX1_demand_1 rfl hl (by decide) rfl (fun ls hl => ?_)
  refine lv_iconst (v := 0) C.1 C.2.1 dX1_demand_2 (by decide) ?_
  refine lv_istore_n (lv' := [(3, .int 0), (2, .int 0), (0, .ref (a 6)), (1, .int pr)]) C.1 C.2.1 dX1_demand_3 rfl hl (by decide) rfl (fun ls hl => ?_)
  refine w_loop (σ := Nat × Int32) G (fun u ⟨k, x1⟩ => k ≤ n ∧ n < k + u ∧ x1 = bS (fun k => buyS S k && !decide (S.2.1 5 k < pr)) (S.2.1 6) k) (fun ⟨k, x1⟩ => stW G a S ++ X) (fun ⟨k, x1⟩ => 0) (fun ⟨k, x1⟩ => 0) (fun ⟨k, x1⟩ => [(0, .ref (a 6)), (1, .int pr), (2, .int x1), (3, .int (nI k))]) 4 ?_ ?_ (n + 1) (0, 0) (⟨Nat.zero_le _, by omega, rfl⟩) hw (lv_sub hl [2, 3, 1, 0] rfl)
  · rintro n4 ⟨k, x1⟩ ⟨h1, h2, h3⟩ ih4 H locs hw ls hl
    replace hw : WH G s (stW G a S ++ X) H locs := hw
    replace hl : lv_has ls 4 [(0, .ref (a 6)), (1, .int pr), (2, .int x1), (3, .int (nI k))] := hl
    refine lv_iload_n C.1 C.2.1 dX1_demand_4 rfl (lv_at hl 3 rfl) ?_
    refine lv_aload_n C.1 C.2.1 dX1_demand_5 rfl (lv_at hl 0 rfl) ?_
    refine r_get C hw 6 rfl rfl in_X1 6 (by decide) fl_X1_35 rfl (v := .int (S.1 1)) rfl dX1_demand_6 ?_
    refine r_toe (show _ = nI n from hc) ?_
    refine lv_icmp_ge (tgt := 49) C.1 C.2.1 dX1_demand_9 (by decide) (fun c_9 => ?_) (fun c_9 => ?_)
    · obtain rfl := le_T h1 (by omega) c_9
      refine lv_iload_n C.1 C.2.1 dX1_demand_49 rfl (lv_at hl 2 rfl) ?_
      exact r_iret C hw rfl rfl () (by rw [h3]; rfl) rfl (Nat.le_of_ble_eq_true rfl) (Nat.le_of_ble_eq_true rfl) dX1_demand_50
    · have hk := le_F h1 (by omega) c_9
      refine lv_aload_n C.1 C.2.1 dX1_demand_12 rfl (lv_at hl 0 rfl) ?_
      refine lv_iload_n C.1 C.2.1 dX1_demand_13 rfl (lv_at hl 3 rfl) ?_
      refine r_vi C hw (k1_buys hF (a := a) (S := S) (X := X) (j := k) (by omega)) ml_X1_56 yf_X1_buys 6 rfl rfl (As := [.int (nI k)]) rfl rfl ⟨Nat.le_of_ble_eq_true rfl, Nat.le_of_ble_eq_true rfl⟩ ⟨Nat.le_of_ble_eq_true rfl, Nat.le_of_ble_eq_true rfl⟩ hl.1 (Nat.le_of_ble_eq_true rfl) dX1_demand_14 (fun r_14 _ H locs hp_14 hw => ?_)
      obtain rfl : r_14 = bI (buyS S k) := hp_14
      replace hw : WH G s (stW G a S ++ X) H locs := hw
      refine lv_if_eq (tgt := 43) C.1 C.2.1 dX1_demand_17 (by decide) (fun c_17 => ?_) (fun c_17 => ?_)
      · have b_17 := bI_eq0.mp c_17
        refine lv_iinc (v := nI (k + 1)) (lv' := [(3, .int (nI (k + 1))), (0, .ref (a 6)), (1, .int pr), (2, .int x1)]) C.1 C.2.1 dX1_demand_43 hl (k := 3) rfl (inc_nI k) (by decide) rfl (fun ls hl => ?_)
        refine lv_goto (tgt := 4) C.1 C.2.1 dX1_demand_46 (by decide) ?_
        exact ih4 (k + 1, x1) (⟨by omega, by omega, bS_f h3 (by simp [b_17])⟩) _ _ hw _ (lv_sub hl [1, 2, 3, 0] rfl)
      · have b_17 := bI_ne0.mp c_17
        refine lv_aload_n C.1 C.2.1 dX1_demand_20 rfl (lv_at hl 0 rfl) ?_
        refine r_get C hw 6 rfl rfl in_X1 3 (by decide) fl_X1_26 rfl (v := .ref (a 13)) rfl dX1_demand_21 ?_
        refine lv_iload_n C.1 C.2.1 dX1_demand_24 rfl (lv_at hl 3 rfl) ?_
        refine r_vi C hw (k7_get hF (strow_5 G a S X) (by decide) (strow_e G a S X 5) (nI k)) ml_X1_39 yf_X7_get 13 rfl rfl (As := [.int (nI k)]) rfl rfl ⟨Nat.le_of_ble_eq_true rfl, Nat.le_of_ble_eq_true rfl⟩ ⟨Nat.le_of_ble_eq_true rfl, Nat.le_of_ble_eq_true rfl⟩ hl.1 (Nat.le_of_ble_eq_true rfl) dX1_demand_25 (fun r_25 _ H locs hp_25 hw => ?_)
        obtain rfl : r_25 = ((S.2.1 5) k) := by rw [hp_25]; exact rget_nI (by omega) (by decide)
        replace hw : WH G s (stW G a S ++ X) H locs := hw
        refine lv_iload_n C.1 C.2.1 dX1_demand_28 rfl (lv_at hl 1 rfl) ?_
        refine lv_icmp_lt (tgt := 43) C.1 C.2.1 dX1_demand_29 (by decide) (fun c_29 => ?_) (fun c_29 => ?_)
        · refine lv_iinc (v := nI (k + 1)) (lv' := [(3, .int (nI (k + 1))), (0, .ref (a 6)), (1, .int pr), (2, .int x1)]) C.1 C.2.1 dX1_demand_43 hl (k := 3) rfl (inc_nI k) (by decide) rfl (fun ls hl => ?_)
          refine lv_goto (tgt := 4) C.1 C.2.1 dX1_demand_46 (by decide) ?_
          exact ih4 (k + 1, x1) (⟨by omega, by omega, bS_f h3 (by simp [b_17, c_29])⟩) _ _ hw _ (lv_sub hl [1, 2, 3, 0] rfl)
        · refine lv_iload_n C.1 C.2.1 dX1_demand_32 rfl (lv_at hl 2 rfl) ?_
          refine lv_aload_n C.1 C.2.1 dX1_demand_33 rfl (lv_at hl 0 rfl) ?_
          refine r_get C hw 6 rfl rfl in_X1 4 (by decide) fl_X1_29 rfl (v := .ref (a 15)) rfl dX1_demand_34 ?_
          refine lv_iload_n C.1 C.2.1 dX1_demand_37 rfl (lv_at hl 3 rfl) ?_
          refine r_vi C hw (k7_get hF (strow_6 G a S X) (by decide) (strow_e G a S X 6) (nI k)) ml_X1_39 yf_X7_get 15 rfl rfl (As := [.int (nI k)]) rfl rfl ⟨Nat.le_of_ble_eq_true rfl, Nat.le_of_ble_eq_true rfl⟩ ⟨Nat.le_of_ble_eq_true rfl, Nat.le_of_ble_eq_true rfl⟩ hl.1 (Nat.le_of_ble_eq_true rfl) dX1_demand_38 (fun r_38 _ H locs hp_38 hw => ?_)
          obtain rfl : r_38 = ((S.2.1 6) k) := by rw [hp_38]; exact rget_nI (by omega) (by decide)
          replace hw : WH G s (stW G a S ++ X) H locs := hw
          refine lv_iadd C.1 C.2.1 dX1_demand_41 ?_
          refine lv_istore_n (lv' := [(2, .int (x1 + ((S.2.1 6) k))), (0, .ref (a 6)), (1, .int pr), (3, .int (nI k))]) C.1 C.2.1 dX1_demand_42 rfl hl (by decide) rfl (fun ls hl => ?_)
          refine lv_iinc (v := nI (k + 1)) (lv' := [(3, .int (nI (k + 1))), (2, .int (x1 + ((S.2.1 6) k))), (0, .ref (a 6)), (1, .int pr)]) C.1 C.2.1 dX1_demand_43 hl (k := 3) rfl (inc_nI k) (by decide) rfl (fun ls hl => ?_)
          refine lv_goto (tgt := 4) C.1 C.2.1 dX1_demand_46 (by decide) ?_
          exact ih4 (k + 1, (x1 + ((S.2.1 6) k))) (⟨by omega, by omega, bS_t h3 (by simp [b_17, c_29])⟩) _ _ hw _ (lv_sub hl [2, 3, 1, 0] rfl)
  · rintro ⟨k, x1⟩ ⟨h1, h2, h3⟩; omega

set_option maxHeartbeats 4000000 in
set_option maxRecDepth 100000 in
theorem k1_supply {l : Launch} {G : Gx} (hF : SF l G) {a : Nat → Nat} {S : SV} {X : va_W} {n : Nat} (hc : S.1 1 = nI n) (hn : n ≤ 20) (pr : Int32) : MI l G yX1_supply cX1_supply 4 .int 2 0 0 [.ref (a 6), .int pr] (stW G a S ++ X) (fun r _ => r = sup S pr n) (fun _ : Unit => stW G a S ++ X) := by
  refine mt_of hF (by decide) (Nat.le_of_ble_eq_true rfl) ?_
  intro p e s m below meth c C hin ls hl H locs hw
  have hl : lv_has ls 4 [(0, .ref (a 6)), (1, .int pr)] := hl
  refine lv_iconst (v := 0) C.1 C.2.1 dX1_supply_0 (by decide) ?_
  refine lv_istore_n (lv' := [(2, .int 0), (0, .ref (a 6)), (1, .int pr)]) C.1 C.2.1 dX1_supply_1 rfl hl (by decide) rfl (fun ls hl => ?_)
  refine lv_iconst (v := 0) C.1 C.2.1 dX1_supply_2 (by decide) ?_
  refine lv_istore_n (lv' := [(3, .int 0), (2, .int 0), (0, .ref (a 6)), (1, .int pr)]) C.1 C.2.1 dX1_supply_3 rfl hl (by decide) rfl (fun ls hl => ?_)
  refine w_loop (σ := Nat × Int32) G (fun u ⟨k, x1⟩ => k ≤ n ∧ n < k + u ∧ x1 = bS (fun k => !buyS S k && !decide (pr < S.2.1 5 k)) (S.2.1 6) k) (fun ⟨k, x1⟩ => stW G a S ++ X) (fun ⟨k, x1⟩ => 0) (fun ⟨k, x1⟩ => 0) (fun ⟨k, x1⟩ => [(0, .ref (a 6)), (1, .int pr), (2, .int x1), (3, .int (nI k))]) 4 ?_ ?_ (n + 1) (0, 0) (⟨Nat.zero_le _, by omega, rfl⟩) hw (lv_sub hl [2, 3, 1, 0] rfl)
  · rintro n4 ⟨k, x1⟩ ⟨h1, h2, h3⟩ ih4 H locs hw ls hl
    replace hw : WH G s (stW G a S ++ X) H locs := hw
    replace hl : lv_has ls 4 [(0, .ref (a 6)), (1, .int pr), (2, .int x1), (3, .int (nI k))] := hl
    refine lv_iload_n C.1 C.2.1 dX1_supply_4 rfl (lv_at hl 3 rfl) ?_
    refine lv_aload_n C.1 C.2.1 dX1_supply_5 rfl (lv_at hl 0 rfl) ?_
    refine r_get C hw 6 rfl rfl in_X1 6 (by decide) fl_X1_35 rfl (v := .int (S.1 1)) rfl dX1_supply_6 ?_
    refine r_toe (show _ = nI n from hc) ?_
    refine lv_icmp_ge (tgt := 49) C.1 C.2.1 dX1_supply_9 (by decide) (fun c_9 => ?_) (fun c_9 => ?_)
    · obtain rfl := le_T h1 (by omega) c_9
      refine lv_iload_n C.1 C.2.1 dX1_supply_49 rfl (lv_at hl 2 rfl) ?_
      exact r_iret C hw rfl rfl () (by rw [h3]; rfl) rfl (Nat.le_of_ble_eq_true rfl) (Nat.le_of_ble_eq_true rfl) dX1_supply_50
    · have hk := le_F h1 (by omega) c_9
      refine lv_aload_n C.1 C.2.1 dX1_supply_12 rfl (lv_at hl 0 rfl) ?_
      refine lv_iload_n C.1 C.2.1 dX1_supply_13 rfl (lv_at hl 3 rfl) ?_
      refine r_vi C hw (k1_buys hF (a := a) (S := S) (X := X) (j := k) (by omega)) ml_X1_56 yf_X1_buys 6 rfl rfl (As := [.int (nI k)]) rfl rfl ⟨Nat.le_of_ble_eq_true rfl, Nat.le_of_ble_eq_true rfl⟩ ⟨Nat.le_of_ble_eq_true rfl, Nat.le_of_ble_eq_true rfl⟩ hl.1 (Nat.le_of_ble_eq_true rfl) dX1_supply_14 (fun r_14 _ H locs hp_14 hw => ?_)
      obtain rfl : r_14 = bI (buyS S k) := hp_14
      replace hw : WH G s (stW G a S ++ X) H locs := hw
      refine lv_if_ne (tgt := 43) C.1 C.2.1 dX1_supply_17 (by decide) (fun c_17 => ?_) (fun c_17 => ?_)
      · have b_17 := bI_ne0.mp c_17
        refine lv_iinc (v := nI (k + 1)) (lv' := [(3, .int (nI (k + 1))), (0, .ref (a 6)), (1, .int pr), (2, .int x1)]) C.1 C.2.1 dX1_supply_43 hl (k := 3) rfl (inc_nI k) (by decide) rfl (fun ls hl => ?_)
        refine lv_goto (tgt := 4) C.1 C.2.1 dX1_supply_46 (by decide) ?_
        exact ih4 (k + 1, x1) (⟨by omega, by omega, bS_f h3 (by simp [b_17])⟩) _ _ hw _ (lv_sub hl [1, 2, 3, 0] rfl)
      · have b_17 := bI_eq0.mp c_17
        refine lv_aload_n C.1 C.2.1 dX1_supply_20 rfl (lv_at hl 0 rfl) ?_
        refine r_get C hw 6 rfl rfl in_X1 3 (by decide) fl_X1_26 rfl (v := .ref (a 13)) rfl dX1_supply_21 ?_
        refine lv_iload_n C.1 C.2.1 dX1_supply_24 rfl (lv_at hl 3 rfl) ?_
        refine r_vi C hw (k7_get hF (strow_5 G a S X) (by decide) (strow_e G a S X 5) (nI k)) ml_X1_39 yf_X7_get 13 rfl rfl (As := [.int (nI k)]) rfl rfl ⟨Nat.le_of_ble_eq_true rfl, Nat.le_of_ble_eq_true rfl⟩ ⟨Nat.le_of_ble_eq_true rfl, Nat.le_of_ble_eq_true rfl⟩ hl.1 (Nat.le_of_ble_eq_true rfl) dX1_supply_25 (fun r_25 _ H locs hp_25 hw => ?_)
        obtain rfl : r_25 = ((S.2.1 5) k) := by rw [hp_25]; exact rget_nI (by omega) (by decide)
        replace hw : WH G s (stW G a S ++ X) H locs := hw
        refine lv_iload_n C.1 C.2.1 dX1_supply_28 rfl (lv_at hl 1 rfl) ?_
        refine lv_icmp_gt (tgt := 43) C.1 C.2.1 dX1_supply_29 (by decide) (fun c_29 => ?_) (fun c_29 => ?_)
        · refine lv_iinc (v := nI (k + 1)) (lv' := [(3, .int (nI (k + 1))), (0, .ref (a 6)), (1, .int pr), (2, .int x1)]) C.1 C.2.1 dX1_supply_43 hl (k := 3) rfl (inc_nI k) (by decide) rfl (fun ls hl => ?_)
          refine lv_goto (tgt := 4) C.1 C.2.1 dX1_supply_46 (by decide) ?_
          exact ih4 (k + 1, x1) (⟨by omega, by omega, bS_f h3 (by simp [b_17, c_29])⟩) _ _ hw _ (lv_sub hl [1, 2, 3, 0] rfl)
        · refine lv_iload_n C.1 C.2.1 dX1_supply_32 rfl (lv_at hl 2 rfl) ?_
          refine lv_aload_n C.1 C.2.1 dX1_supply_33 rfl (lv_at hl 0 rfl) ?_
          refine r_get C hw 6 rfl rfl in_X1 4 (by decide) fl_X1_29 rfl (v := .ref (a 15)) rfl dX1_supply_34 ?_
          refine lv_iload_n C.1 C.2.1 dX1_supply_37 rfl (lv_at hl 3 rfl) ?_
          refine r_vi C hw (k7_get hF (strow_6 G a S X) (by decide) (strow_e G a S X 6) (nI k)) ml_X1_39 yf_X7_get 15 rfl rfl (As := [.int (nI k)]) rfl rfl ⟨Nat.le_of_ble_eq_true rfl, Nat.le_of_ble_eq_true rfl⟩ ⟨Nat.le_of_ble_eq_true rfl, Nat.le_of_ble_eq_true rfl⟩ hl.1 (Nat.le_of_ble_eq_true rfl) dX1_supply_38 (fun r_38 _ H locs hp_38 hw => ?_)
          obtain rfl : r_38 = ((S.2.1 6) k) := by rw [hp_38]; exact rget_nI (by omega) (by decide)
          replace hw : WH G s (stW G a S ++ X) H locs := hw
          refine lv_iadd C.1 C.2.1 dX1_supply_41 ?_
          refine lv_istore_n (lv' := [(2, .int (x1 + ((S.2.1 6) k))), (0, .ref (a 6)), (1, .int pr), (3, .int (nI k))]) C.1 C.2.1 dX1_supply_42 rfl hl (by decide) rfl (fun ls hl => ?_)
          refine lv_iinc (v := nI (k + 1)) (lv' := [(3, .int (nI (k + 1))), (2, .int (x1 + ((S.2.1 6) k))), (0, .ref (a 6)), (1, .int pr)]) C.1 C.2.1 dX1_supply_43 hl (k := 3) rfl (inc_nI k) (by decide) rfl (fun ls hl => ?_)
          refine lv_goto (tgt := 4) C.1 C.2.1 dX1_supply_46 (by decide) ?_
          exact ih4 (k + 1, (x1 + ((S.2.1 6) k))) (⟨by omega, by omega, bS_t h3 (by simp [b_17, c_29])⟩) _ _ hw _ (lv_sub hl [2, 3, 1, 0] rfl)
  · rintro ⟨k, x1⟩ ⟨h1, h2, h3⟩; omega

set_option maxHeartbeats 4000000 in
set_option maxRecDepth 100000 in
theorem k1_volume {l : Launch} {G : Gx} (hF : SF l G) {a : Nat → Nat} {S : SV} {X : va_W} {n : Nat} (hc : S.1 1 = nI n) (hn : n ≤ 20) (pr : Int32) : MI l G yX1_volume cX1_volume 2 .int 3 0 0 [.ref (a 6), .int pr] (stW G a S ++ X) (fun r _ => r = mmin (dmd S pr n) (sup S pr n)) (fun _ : Unit => stW G a S ++ X) := by
  refine mt_of hF (by decide) (Nat.le_of_ble_eq_true rfl) ?_
  intro p e s m below meth c C hin ls hl H locs hw
  have hl : lv_has ls 2 [(0, .ref (a 6)), (1, .int pr)] := hl
  refine lv_aload_n C.1 C.2.1 dX1_volume_0 rfl (lv_at hl 0 rfl) ?_
  refine lv_iload_n C.1 C.2.1 dX1_volume_1 rfl (lv_at hl 1 rfl) ?_
  refine r_vi C hw (k1_demand hF (a := a) (S := S) (X := X) (n := n) hc hn pr) ml_X1_68 yf_X1_demand 6 rfl rfl (As := [.int pr]) rfl rfl ⟨Nat.le_of_ble_eq_true rfl, Nat.le_of_ble_eq_true rfl⟩ ⟨Nat.le_of_ble_eq_true rfl, Nat.le_of_ble_eq_true rfl⟩ hl.1 (Nat.le_of_ble_eq_true rfl) dX1_volume_2 (fun r_2 _ H locs hp_2 hw => ?_)
  obtain rfl : r_2 = dmd S pr n := hp_2
  replace hw : WH G s (stW G a S ++ X) H locs := hw
  refine lv_aload_n C.1 C.2.1 dX1_volume_5 rfl (lv_at hl 0 rfl) ?_
  refine lv_iload_n C.1 C.2.1 dX1_volume_6 rfl (lv_at hl 1 rfl) ?_
  refine r_vi C hw (k1_supply hF (a := a) (S := S) (X := X) (n := n) hc hn pr) ml_X1_71 yf_X1_supply 6 rfl rfl (As := [.int pr]) rfl rfl ⟨Nat.le_of_ble_eq_true rfl, Nat.le_of_ble_eq_true rfl⟩ ⟨Nat.le_of_ble_eq_true rfl, Nat.le_of_ble_eq_true rfl⟩ hl.1 (Nat.le_of_ble_eq_true rfl) dX1_volume_7 (fun r_7 _ H locs hp_7 hw => ?_)
  obtain rfl : r_7 = sup S pr n := hp_7
  replace hw : WH G s (stW G a S ++ X) H locs := hw
  refine r_mmin C ml_X1_74 hl.1 (Nat.le_of_ble_eq_true rfl) (Nat.le_of_ble_eq_true rfl) (Nat.le_of_ble_eq_true rfl) (Nat.le_of_ble_eq_true rfl) dX1_volume_10 ?_
  exact r_iret C hw rfl rfl () (rfl) rfl (Nat.le_of_ble_eq_true rfl) (Nat.le_of_ble_eq_true rfl) dX1_volume_13

set_option maxHeartbeats 4000000 in
set_option maxRecDepth 100000 in
theorem k5_init {l : Launch} {G : Gx} (hF : SF l G) {W : Int32 × Int32 × Int32 → va_W} {q0 q : Nat} (hR : ObW 7 pcE W q0 q) {w0 : va_W} {t : Int32 × Int32 × Int32} (e0 : W t = w0) : MV l G yX5_init cX5_init 1 1 0 0 [.ref q] w0 (fun _ : Unit => True) (fun _ => W (-1, 0, 0)) := by
  obtain ⟨x, y, z⟩ := t
  subst e0
  refine mt_of hF (by decide) (Nat.le_of_ble_eq_true rfl) ?_
  intro p e s m below meth c C hin ls hl H locs hw
  have hl : lv_has ls 1 [(0, .ref q)] := hl
  refine lv_aload_n C.1 C.2.1 dX5_init_0 rfl (lv_at hl 0 rfl) ?_
  refine r_objInit C ml_X5_3 obj_i1 obj_i2 hl.1 dX5_init_1 (Nat.le_of_ble_eq_true rfl) (Nat.le_of_ble_eq_true rfl) ?_
  refine lv_aload_n C.1 C.2.1 dX5_init_4 rfl (lv_at hl 0 rfl) ?_
  refine lv_iconst (v := -1) C.1 C.2.1 dX5_init_5 (by decide) ?_
  refine r_put C hw q0 (hR.1 (x, y, z)) rfl in_X5 tyX5 tyX5_ok nmX5 0 (by decide) fl_X5_9 rfl rfl rfl rfl (Nat.le_of_ble_eq_true rfl) (w' := W ((-1), y, z)) (hR.2 _ ((-1), y, z)) dX5_init_6 (fun H locs hw => ?_)
  refine lv_aload_n C.1 C.2.1 dX5_init_9 rfl (lv_at hl 0 rfl) ?_
  refine lv_iconst (v := 0) C.1 C.2.1 dX5_init_10 (by decide) ?_
  refine r_put C hw q0 (hR.1 ((-1), y, z)) rfl in_X5 tyX5 tyX5_ok nmX5 1 (by decide) fl_X5_15 rfl rfl rfl rfl (Nat.le_of_ble_eq_true rfl) (w' := W ((-1), 0, z)) (hR.2 _ ((-1), 0, z)) dX5_init_11 (fun H locs hw => ?_)
  refine lv_aload_n C.1 C.2.1 dX5_init_14 rfl (lv_at hl 0 rfl) ?_
  refine lv_iconst (v := 0) C.1 C.2.1 dX5_init_15 (by decide) ?_
  refine r_put C hw q0 (hR.1 ((-1), 0, z)) rfl in_X5 tyX5 tyX5_ok nmX5 2 (by decide) fl_X5_18 rfl rfl rfl rfl (Nat.le_of_ble_eq_true rfl) (w' := W ((-1), 0, 0)) (hR.2 _ ((-1), 0, 0)) dX5_init_16 (fun H locs hw => ?_)
  exact r_vret C hw rfl () (trivial) rfl (Nat.le_of_ble_eq_true rfl) (Nat.le_of_ble_eq_true rfl) dX5_init_19

set_option maxHeartbeats 4000000 in
set_option maxRecDepth 100000 in
theorem k5_consider {l : Launch} {G : Gx} (hF : SF l G) {W : Int32 × Int32 × Int32 → va_W} {q0 q : Nat} (hR : ObW 7 pcE W q0 q) {w0 : va_W} {t : Int32 × Int32 × Int32} (e0 : W t = w0) (cd d1 s1 : Int32) : MV l G yX5_consider cX5_consider 6 1 0 0 [.ref q, .int cd, .int d1, .int s1] w0 (fun _ : Unit => True) (fun _ => W (pcs cd d1 s1 t)) := by
  obtain ⟨x, y, z⟩ := t
  subst e0
  refine mt_of hF (by decide) (Nat.le_of_ble_eq_true rfl) ?_
  intro p e s m below meth c C hin ls hl H locs hw
  have hl : lv_has ls 6 [(0, .ref q), (1, .int cd), (2, .int d1), (3, .int s1)] := hl
  refine lv_iload_n C.1 C.2.1 dX5_consider_0 rfl (lv_at hl 2 rfl) ?_
  refine lv_iload_n C.1 C.2.1 dX5_consider_1 rfl (lv_at hl 3 rfl) ?_
  refine r_mmin C ml_X5_21 hl.1 (Nat.le_of_ble_eq_true rfl) (Nat.le_of_ble_eq_true rfl) (Nat.le_of_ble_eq_true rfl) (Nat.le_of_ble_eq_true rfl) dX5_consider_2 ?_
  refine lv_istore (lv' := [(4, .int (mmin d1 s1)), (0, .ref q), (1, .int cd), (2, .int d1), (3, .int s1)]) C.1 C.2.1 dX5_consider_5 hl (by decide) rfl (fun ls hl => ?_)
  refine lv_iload_n C.1 C.2.1 dX5_consider_7 rfl (lv_at hl 3 rfl) ?_
  refine lv_iload_n C.1 C.2.1 dX5_consider_8 rfl (lv_at hl 4 rfl) ?_
  refine lv_isub C.1 C.2.1 dX5_consider_9 ?_
  refine r_mabs C ml_X5_27 hl.1 (Nat.le_of_ble_eq_true rfl) (Nat.le_of_ble_eq_true rfl) (Nat.le_of_ble_eq_true rfl) (Nat.le_of_ble_eq_true rfl) dX5_consider_10 ?_
  refine lv_istore (lv' := [(5, .int (mabs (d1 - s1))), (4, .int (mmin d1 s1)), (0, .ref q), (1, .int cd), (2, .int d1), (3, .int s1)]) C.1 C.2.1 dX5_consider_13 hl (by decide) rfl (fun ls hl => ?_)
  refine lv_iload C.1 C.2.1 dX5_consider_15 (lv_at hl 1 rfl) ?_
  refine lv_aload_n C.1 C.2.1 dX5_consider_17 rfl (lv_at hl 2 rfl) ?_
  refine r_get C hw q0 (hR.1 (x, y, z)) rfl in_X5 1 (by decide) fl_X5_15 rfl (v := .int y) rfl dX5_consider_18 ?_
  refine lv_icmp_gt (tgt := 42) C.1 C.2.1 dX5_consider_21 (by decide) (fun c_21 => ?_) (fun c_21 => ?_)
  · refine lv_aload_n C.1 C.2.1 dX5_consider_42 rfl (lv_at hl 2 rfl) ?_
    refine lv_iload_n C.1 C.2.1 dX5_consider_43 rfl (lv_at hl 3 rfl) ?_
    refine r_put C hw q0 (hR.1 (x, y, z)) rfl in_X5 tyX5 tyX5_ok nmX5 0 (by decide) fl_X5_9 rfl rfl rfl rfl (Nat.le_of_ble_eq_true rfl) (w' := W (cd, y, z)) (hR.2 _ (cd, y, z)) dX5_consider_44 (fun H locs hw => ?_)
    refine lv_aload_n C.1 C.2.1 dX5_consider_47 rfl (lv_at hl 2 rfl) ?_
    refine lv_iload C.1 C.2.1 dX5_consider_48 (lv_at hl 1 rfl) ?_
    refine r_put C hw q0 (hR.1 (cd, y, z)) rfl in_X5 tyX5 tyX5_ok nmX5 1 (by decide) fl_X5_15 rfl rfl rfl rfl (Nat.le_of_ble_eq_true rfl) (w' := W (cd, (mmin d1 s1), z)) (hR.2 _ (cd, (mmin d1 s1), z)) dX5_consider_50 (fun H locs hw => ?_)
    refine lv_aload_n C.1 C.2.1 dX5_consider_53 rfl (lv_at hl 2 rfl) ?_
    refine lv_iload C.1 C.2.1 dX5_consider_54 (lv_at hl 0 rfl) ?_
    refine r_put C hw q0 (hR.1 (cd, (mmin d1 s1), z)) rfl in_X5 tyX5 tyX5_ok nmX5 2 (by decide) fl_X5_18 rfl rfl rfl rfl (Nat.le_of_ble_eq_true rfl) (w' := W (cd, (mmin d1 s1), (mabs (d1 - s1)))) (hR.2 _ (cd, (mmin d1 s1), (mabs (d1 - s1)))) dX5_consider_56 (fun H locs hw => ?_)
    exact r_vret C hw rfl () (trivial) (by rw [pcs, if_pos (Or.inl c_21)]) (Nat.le_of_ble_eq_true rfl) (Nat.le_of_ble_eq_true rfl) dX5_consider_59
  · refine lv_iload C.1 C.2.1 dX5_consider_24 (lv_at hl 1 rfl) ?_
    refine lv_aload_n C.1 C.2.1 dX5_consider_26 rfl (lv_at hl 2 rfl) ?_
    refine r_get C hw q0 (hR.1 (x, y, z)) rfl in_X5 1 (by decide) fl_X5_15 rfl (v := .int y) rfl dX5_consider_27 ?_
    refine lv_icmp_ne (tgt := 59) C.1 C.2.1 dX5_consider_30 (by decide) (fun c_30 => ?_) (fun c_30 => ?_)
    · exact r_vret C hw rfl () (trivial) (by rw [pcs, if_neg (by rintro (h | h); exact c_21 h; exact c_30 h.1)]) (Nat.le_of_ble_eq_true rfl) (Nat.le_of_ble_eq_true rfl) dX5_consider_59
    · refine lv_iload C.1 C.2.1 dX5_consider_33 (lv_at hl 0 rfl) ?_
      refine lv_aload_n C.1 C.2.1 dX5_consider_35 rfl (lv_at hl 2 rfl) ?_
      refine r_get C hw q0 (hR.1 (x, y, z)) rfl in_X5 2 (by decide) fl_X5_18 rfl (v := .int z) rfl dX5_consider_36 ?_
      refine lv_icmp_ge (tgt := 59) C.1 C.2.1 dX5_consider_39 (by decide) (fun c_39 => ?_) (fun c_39 => ?_)
      · exact r_vret C hw rfl () (trivial) (by rw [pcs, if_neg (by rintro (h | h); exact c_21 h; exact h.2 c_39)]) (Nat.le_of_ble_eq_true rfl) (Nat.le_of_ble_eq_true rfl) dX5_consider_59
      · refine lv_aload_n C.1 C.2.1 dX5_consider_42 rfl (lv_at hl 2 rfl) ?_
        refine lv_iload_n C.1 C.2.1 dX5_consider_43 rfl (lv_at hl 3 rfl) ?_
        refine r_put C hw q0 (hR.1 (x, y, z)) rfl in_X5 tyX5 tyX5_ok nmX5 0 (by decide) fl_X5_9 rfl rfl rfl rfl (Nat.le_of_ble_eq_true rfl) (w' := W (cd, y, z)) (hR.2 _ (cd, y, z)) dX5_consider_44 (fun H locs hw => ?_)
        refine lv_aload_n C.1 C.2.1 dX5_consider_47 rfl (lv_at hl 2 rfl) ?_
        refine lv_iload C.1 C.2.1 dX5_consider_48 (lv_at hl 1 rfl) ?_
        refine r_put C hw q0 (hR.1 (cd, y, z)) rfl in_X5 tyX5 tyX5_ok nmX5 1 (by decide) fl_X5_15 rfl rfl rfl rfl (Nat.le_of_ble_eq_true rfl) (w' := W (cd, (mmin d1 s1), z)) (hR.2 _ (cd, (mmin d1 s1), z)) dX5_consider_50 (fun H locs hw => ?_)
        refine lv_aload_n C.1 C.2.1 dX5_consider_53 rfl (lv_at hl 2 rfl) ?_
        refine lv_iload C.1 C.2.1 dX5_consider_54 (lv_at hl 0 rfl) ?_
        refine r_put C hw q0 (hR.1 (cd, (mmin d1 s1), z)) rfl in_X5 tyX5 tyX5_ok nmX5 2 (by decide) fl_X5_18 rfl rfl rfl rfl (Nat.le_of_ble_eq_true rfl) (w' := W (cd, (mmin d1 s1), (mabs (d1 - s1)))) (hR.2 _ (cd, (mmin d1 s1), (mabs (d1 - s1)))) dX5_consider_56 (fun H locs hw => ?_)
        exact r_vret C hw rfl () (trivial) (by rw [pcs, if_pos (Or.inr ⟨c_30, c_39⟩)]) (Nat.le_of_ble_eq_true rfl) (Nat.le_of_ble_eq_true rfl) dX5_consider_59

set_option maxHeartbeats 4000000 in
set_option maxRecDepth 100000 in
theorem k1_poolByTrying {l : Launch} {G : Gx} (hF : SF l G) {a : Nat → Nat} {S : SV} {X : va_W} {n : Nat} (hc : S.1 1 = nI n) (hn : n ≤ 20) : MR l G yX1_poolByTrying cX1_poolByTrying 3 (.object "DropMarket$PoolChoice") 3 1 3 [.ref (a 6)] (stW G a S ++ X) (fun _ => True) (fun (_ : Unit) q => stW G a S ++ ((q, .inr (7, pcE (poolS S n))) :: X)) := by
  refine mt_of hF (by decide) (Nat.le_of_ble_eq_true rfl) ?_
  intro p e s m below meth c C hin ls hl H locs hw
  have hl : lv_has ls 3 [(0, .ref (a 6))] := hl
  refine r_new C hw cl_X1_80 isb_X5 ini_X5 (ci := 7) rfl in_X5 tyX5 tyX5_ok (fs := pcE (0, 0, 0)) (fun j hj => by rcases (show j = 0 ∨ j = 1 ∨ j = 2 by omega) with rfl | rfl | rfl <;> rfl) (w' := fun q => stW G a S ++ ((q, .inr (7, pcE (0, 0, 0))) :: X)) (fun q => pnew _ _ _) (Nat.le_of_ble_eq_true rfl) (Nat.le_of_ble_eq_true rfl) dX1_poolByTrying_0 (fun q_0 H locs hw => ?_)
  replace hw : WH G s (stW G a S ++ ((q_0, .inr (7, pcE (0, 0, 0))) :: X)) H locs := hw
  refine lv_dup C.1 C.2.1 dX1_poolByTrying_3 rfl ?_
  refine r_nv C hw (k5_init hF (W := fun t => stW G a S ++ ((q_0, .inr (7, pcE t)) :: X)) (q0 := 19) ⟨fun _ => rfl, fun _ _ => rfl⟩ (t := (0, 0, 0)) rfl) mn_X1_82 yf_X5_init rfl (As := []) rfl rfl ⟨Nat.le_of_ble_eq_true rfl, Nat.le_of_ble_eq_true rfl⟩ ⟨Nat.le_of_ble_eq_true rfl, Nat.le_of_ble_eq_true rfl⟩ hl.1 (Nat.le_of_ble_eq_true rfl) dX1_poolByTrying_4 (fun _ H locs hp_4 hw => ?_)
  replace hw : WH G s (stW G a S ++ ((q_0, .inr (7, pcE (-1, 0, 0))) :: X)) H locs := hw
  refine lv_astore_n (lv' := [(1, .ref q_0), (0, .ref (a 6))]) C.1 C.2.1 dX1_poolByTrying_7 rfl hl (by decide) rfl (fun ls hl => ?_)
  refine lv_iconst (v := 1) C.1 C.2.1 dX1_poolByTrying_8 (by decide) ?_
  refine lv_istore_n (lv' := [(2, .int 1), (1, .ref q_0), (0, .ref (a 6))]) C.1 C.2.1 dX1_poolByTrying_9 rfl hl (by decide) rfl (fun ls hl => ?_)
  refine w_loop (σ := Nat) G (fun u k => k ≤ 99 ∧ 99 < k + u) (fun k => stW G a S ++ ((q_0, .inr (7, pcE (pcR (fun q => dmd S q n) (fun q => sup S q n) k))) :: X)) (fun k => 1) (fun k => 3) (fun k => [(0, .ref (a 6)), (1, .ref q_0), (2, .int (nI (k + 1)))]) 3 ?_ ?_ 100 0 (⟨Nat.zero_le _, by omega⟩) hw (lv_sub hl [2, 1, 0] rfl)
  · rintro n10 k ⟨h1, h2⟩ ih10 H locs hw ls hl
    replace hw : WH G s (stW G a S ++ ((q_0, .inr (7, pcE (pcR (fun q => dmd S q n) (fun q => sup S q n) k))) :: X)) H locs := hw
    replace hl : lv_has ls 3 [(0, .ref (a 6)), (1, .ref q_0), (2, .int (nI (k + 1)))] := hl
    refine lv_iload_n C.1 C.2.1 dX1_poolByTrying_10 rfl (lv_at hl 2 rfl) ?_
    refine lv_bipush (v := 99) C.1 C.2.1 dX1_poolByTrying_11 (by decide) ?_
    refine lv_icmp_gt (tgt := 37) C.1 C.2.1 dX1_poolByTrying_13 (by decide) (fun c_13 => ?_) (fun c_13 => ?_)
    · obtain rfl : k = 99 := by have := lt_T (k := 99) (n := k + 1) (by omega) (by decide) c_13; omega
      refine lv_aload_n C.1 C.2.1 dX1_poolByTrying_37 rfl (lv_at hl 1 rfl) ?_
      exact r_rret C hw rfl (Or.inl ⟨_, rfl⟩) () (trivial) rfl (Nat.le_of_ble_eq_true rfl) (Nat.le_of_ble_eq_true rfl) dX1_poolByTrying_38
    · have hk := lt_F (k := 99) (n := k + 1) (by omega) (by decide) c_13
      refine lv_aload_n C.1 C.2.1 dX1_poolByTrying_16 rfl (lv_at hl 1 rfl) ?_
      refine lv_iload_n C.1 C.2.1 dX1_poolByTrying_17 rfl (lv_at hl 2 rfl) ?_
      refine lv_aload_n C.1 C.2.1 dX1_poolByTrying_18 rfl (lv_at hl 0 rfl) ?_
      refine lv_iload_n C.1 C.2.1 dX1_poolByTrying_19 rfl (lv_at hl 2 rfl) ?_
      refine r_vi C hw (k1_demand hF (a := a) (S := S) (X := ((q_0, .inr (7, pcE (pcR (fun q => dmd S q n) (fun q => sup S q n) k))) :: X)) (n := n) hc hn (nI (k + 1))) ml_X1_68 yf_X1_demand 6 rfl rfl (As := [.int (nI (k + 1))]) rfl rfl ⟨Nat.le_of_ble_eq_true rfl, Nat.le_of_ble_eq_true rfl⟩ ⟨Nat.le_of_ble_eq_true rfl, Nat.le_of_ble_eq_true rfl⟩ hl.1 (Nat.le_of_ble_eq_true rfl) dX1_poolByTrying_20 (fun r_20 _ H locs hp_20 hw => ?_)
      obtain rfl : r_20 = dmd S (nI (k + 1)) n := hp_20
      replace hw : WH G s (stW G a S ++ ((q_0, .inr (7, pcE (pcR (fun q => dmd S q n) (fun q => sup S q n) k))) :: X)) H locs := hw
      refine lv_aload_n C.1 C.2.1 dX1_poolByTrying_23 rfl (lv_at hl 0 rfl) ?_
      refine lv_iload_n C.1 C.2.1 dX1_poolByTrying_24 rfl (lv_at hl 2 rfl) ?_
      refine r_vi C hw (k1_supply hF (a := a) (S := S) (X := ((q_0, .inr (7, pcE (pcR (fun q => dmd S q n) (fun q => sup S q n) k))) :: X)) (n := n) hc hn (nI (k + 1))) ml_X1_71 yf_X1_supply 6 rfl rfl (As := [.int (nI (k + 1))]) rfl rfl ⟨Nat.le_of_ble_eq_true rfl, Nat.le_of_ble_eq_true rfl⟩ ⟨Nat.le_of_ble_eq_true rfl, Nat.le_of_ble_eq_true rfl⟩ hl.1 (Nat.le_of_ble_eq_true rfl) dX1_poolByTrying_25 (fun r_25 _ H locs hp_25 hw => ?_)
      obtain rfl : r_25 = sup S (nI (k + 1)) n := hp_25
      replace hw : WH G s (stW G a S ++ ((q_0, .inr (7, pcE (pcR (fun q => dmd S q n) (fun q => sup S q n) k))) :: X)) H locs := hw
      refine r_vv C hw (k5_consider hF (W := fun t => stW G a S ++ ((q_0, .inr (7, pcE t)) :: X)) (q0 := 19) ⟨fun _ => rfl, fun _ _ => rfl⟩ (t := pcR (fun q => dmd S q n) (fun q => sup S q n) k) rfl (nI (k + 1)) (dmd S (nI (k + 1)) n) (sup S (nI (k + 1)) n)) ml_X1_83 yf_X5_consider 19 rfl rfl (As := [.int (nI (k + 1)), .int (dmd S (nI (k + 1)) n), .int (sup S (nI (k + 1)) n)]) rfl rfl ⟨Nat.le_of_ble_eq_true rfl, Nat.le_of_ble_eq_true rfl⟩ ⟨Nat.le_of_ble_eq_true rfl, Nat.le_of_ble_eq_true rfl⟩ hl.1 (Nat.le_of_ble_eq_true rfl) dX1_poolByTrying_28 (fun _ H locs hp_28 hw => ?_)
      replace hw : WH G s (stW G a S ++ ((q_0, .inr (7, pcE (pcR (fun q => dmd S q n) (fun q => sup S q n) (k + 1)))) :: X)) H locs := hw
      refine lv_iinc (v := nI (k + 1 + 1)) (lv' := [(2, .int (nI (k + 1 + 1))), (0, .ref (a 6)), (1, .ref q_0)]) C.1 C.2.1 dX1_poolByTrying_31 hl (k := 2) rfl (inc_nI (k + 1)) (by decide) rfl (fun ls hl => ?_)
      refine lv_goto (tgt := 10) C.1 C.2.1 dX1_poolByTrying_34 (by decide) ?_
      exact ih10 (k + 1) (⟨by omega, by omega⟩) _ _ hw _ (lv_sub hl [1, 2, 0] rfl)
  · rintro k ⟨h1, h2⟩; omega

set_option maxHeartbeats 4000000 in
set_option maxRecDepth 100000 in
theorem k1_copyFrom {l : Launch} {G : Gx} (hF : SF l G) {a : Nat → Nat} {S : SV} {X : va_W} {b : Nat → Nat} {T : SV} : MV l G yX1_copyFrom cX1_copyFrom 2 1 0 0 [.ref (a 6), .ref (b 6)] (stW G a S ++ (stW G b T ++ X)) (fun _ => True) (fun _ : Unit => stW G a (bkC S T) ++ (stW G b T ++ X)) := by
  refine mt_of hF (by decide) (Nat.le_of_ble_eq_true rfl) ?_
  intro p e s m below meth c C hin ls hl H locs hw
  have hl : lv_has ls 2 [(0, .ref (a 6)), (1, .ref (b 6))] := hl
  refine lv_aload_n C.1 C.2.1 dX1_copyFrom_0 rfl (lv_at hl 0 rfl) ?_
  refine r_get C hw 6 rfl rfl in_X1 0 (by decide) fl_X1_14 rfl (v := .ref (a 7)) rfl dX1_copyFrom_1 ?_
  refine lv_aload_n C.1 C.2.1 dX1_copyFrom_4 rfl (lv_at hl 1 rfl) ?_
  refine r_get C hw 25 rfl rfl in_X1 0 (by decide) fl_X1_14 rfl (v := .ref (b 7)) rfl dX1_copyFrom_5 ?_
  refine r_vv C hw (k7_copyFrom hF (strow_2 G a S (stW G b T ++ X)) (by decide) (strow_e G a S (stW G b T ++ X) 2) (q2 := 26) (q3 := 27) (g := T.2.1 2) ⟨fun _ => rfl, fun _ => rfl⟩) ml_X1_87 yf_X7_copyFrom 7 rfl rfl (As := [.ref (b 7)]) rfl rfl ⟨Nat.le_of_ble_eq_true rfl, Nat.le_of_ble_eq_true rfl⟩ ⟨Nat.le_of_ble_eq_true rfl, Nat.le_of_ble_eq_true rfl⟩ hl.1 (Nat.le_of_ble_eq_true rfl) dX1_copyFrom_8 (fun _ H locs hp_8 hw => ?_)
  replace hw : WH G s (stW G a (sR S 2 (T.2.1 2)) ++ (stW G b T ++ X)) H locs := hw
  refine lv_aload_n C.1 C.2.1 dX1_copyFrom_11 rfl (lv_at hl 0 rfl) ?_
  refine r_get C hw 6 rfl rfl in_X1 1 (by decide) fl_X1_20 rfl (v := .ref (a 9)) rfl dX1_copyFrom_12 ?_
  refine lv_aload_n C.1 C.2.1 dX1_copyFrom_15 rfl (lv_at hl 1 rfl) ?_
  refine r_get C hw 25 rfl rfl in_X1 1 (by decide) fl_X1_20 rfl (v := .ref (b 9)) rfl dX1_copyFrom_16 ?_
  refine r_vv C hw (k7_copyFrom hF (strow_3 G a (sR S 2 (T.2.1 2)) (stW G b T ++ X)) (by decide) (strow_e G a (sR S 2 (T.2.1 2)) (stW G b T ++ X) 3) (q2 := 28) (q3 := 29) (g := T.2.1 3) ⟨fun _ => rfl, fun _ => rfl⟩) ml_X1_87 yf_X7_copyFrom 9 rfl rfl (As := [.ref (b 9)]) rfl rfl ⟨Nat.le_of_ble_eq_true rfl, Nat.le_of_ble_eq_true rfl⟩ ⟨Nat.le_of_ble_eq_true rfl, Nat.le_of_ble_eq_true rfl⟩ hl.1 (Nat.le_of_ble_eq_true rfl) dX1_copyFrom_19 (fun _ H locs hp_19 hw => ?_)
  replace hw : WH G s (stW G a (sR (sR S 2 (T.2.1 2)) 3 (T.2.1 3)) ++ (stW G b T ++ X)) H locs := hw
  refine lv_aload_n C.1 C.2.1 dX1_copyFrom_22 rfl (lv_at hl 0 rfl) ?_
  refine r_get C hw 6 rfl rfl in_X1 2 (by decide) fl_X1_23 rfl (v := .ref (a 11)) rfl dX1_copyFrom_23 ?_
  refine lv_aload_n C.1 C.2.1 dX1_copyFrom_26 rfl (lv_at hl 1 rfl) ?_
  refine r_get C hw 25 rfl rfl in_X1 2 (by decide) fl_X1_23 rfl (v := .ref (b 11)) rfl dX1_copyFrom_27 ?_
  refine r_vv C hw (k7_copyFrom hF (strow_4 G a (sR (sR S 2 (T.2.1 2)) 3 (T.2.1 3)) (stW G b T ++ X)) (by decide) (strow_e G a (sR (sR S 2 (T.2.1 2)) 3 (T.2.1 3)) (stW G b T ++ X) 4) (q2 := 30) (q3 := 31) (g := T.2.1 4) ⟨fun _ => rfl, fun _ => rfl⟩) ml_X1_87 yf_X7_copyFrom 11 rfl rfl (As := [.ref (b 11)]) rfl rfl ⟨Nat.le_of_ble_eq_true rfl, Nat.le_of_ble_eq_true rfl⟩ ⟨Nat.le_of_ble_eq_true rfl, Nat.le_of_ble_eq_true rfl⟩ hl.1 (Nat.le_of_ble_eq_true rfl) dX1_copyFrom_30 (fun _ H locs hp_30 hw => ?_)
  replace hw : WH G s (stW G a (sR (sR (sR S 2 (T.2.1 2)) 3 (T.2.1 3)) 4 (T.2.1 4)) ++ (stW G b T ++ X)) H locs := hw
  refine lv_aload_n C.1 C.2.1 dX1_copyFrom_33 rfl (lv_at hl 0 rfl) ?_
  refine r_get C hw 6 rfl rfl in_X1 3 (by decide) fl_X1_26 rfl (v := .ref (a 13)) rfl dX1_copyFrom_34 ?_
  refine lv_aload_n C.1 C.2.1 dX1_copyFrom_37 rfl (lv_at hl 1 rfl) ?_
  refine r_get C hw 25 rfl rfl in_X1 3 (by decide) fl_X1_26 rfl (v := .ref (b 13)) rfl dX1_copyFrom_38 ?_
  refine r_vv C hw (k7_copyFrom hF (strow_5 G a (sR (sR (sR S 2 (T.2.1 2)) 3 (T.2.1 3)) 4 (T.2.1 4)) (stW G b T ++ X)) (by decide) (strow_e G a (sR (sR (sR S 2 (T.2.1 2)) 3 (T.2.1 3)) 4 (T.2.1 4)) (stW G b T ++ X) 5) (q2 := 32) (q3 := 33) (g := T.2.1 5) ⟨fun _ => rfl, fun _ => rfl⟩) ml_X1_87 yf_X7_copyFrom 13 rfl rfl (As := [.ref (b 13)]) rfl rfl ⟨Nat.le_of_ble_eq_true rfl, Nat.le_of_ble_eq_true rfl⟩ ⟨Nat.le_of_ble_eq_true rfl, Nat.le_of_ble_eq_true rfl⟩ hl.1 (Nat.le_of_ble_eq_true rfl) dX1_copyFrom_41 (fun _ H locs hp_41 hw => ?_)
  replace hw : WH G s (stW G a (sR (sR (sR (sR S 2 (T.2.1 2)) 3 (T.2.1 3)) 4 (T.2.1 4)) 5 (T.2.1 5)) ++ (stW G b T ++ X)) H locs := hw
  refine lv_aload_n C.1 C.2.1 dX1_copyFrom_44 rfl (lv_at hl 0 rfl) ?_
  refine r_get C hw 6 rfl rfl in_X1 4 (by decide) fl_X1_29 rfl (v := .ref (a 15)) rfl dX1_copyFrom_45 ?_
  refine lv_aload_n C.1 C.2.1 dX1_copyFrom_48 rfl (lv_at hl 1 rfl) ?_
  refine r_get C hw 25 rfl rfl in_X1 4 (by decide) fl_X1_29 rfl (v := .ref (b 15)) rfl dX1_copyFrom_49 ?_
  refine r_vv C hw (k7_copyFrom hF (strow_6 G a (sR (sR (sR (sR S 2 (T.2.1 2)) 3 (T.2.1 3)) 4 (T.2.1 4)) 5 (T.2.1 5)) (stW G b T ++ X)) (by decide) (strow_e G a (sR (sR (sR (sR S 2 (T.2.1 2)) 3 (T.2.1 3)) 4 (T.2.1 4)) 5 (T.2.1 5)) (stW G b T ++ X) 6) (q2 := 34) (q3 := 35) (g := T.2.1 6) ⟨fun _ => rfl, fun _ => rfl⟩) ml_X1_87 yf_X7_copyFrom 15 rfl rfl (As := [.ref (b 15)]) rfl rfl ⟨Nat.le_of_ble_eq_true rfl, Nat.le_of_ble_eq_true rfl⟩ ⟨Nat.le_of_ble_eq_true rfl, Nat.le_of_ble_eq_true rfl⟩ hl.1 (Nat.le_of_ble_eq_true rfl) dX1_copyFrom_52 (fun _ H locs hp_52 hw => ?_)
  replace hw : WH G s (stW G a (sR (sR (sR (sR (sR S 2 (T.2.1 2)) 3 (T.2.1 3)) 4 (T.2.1 4)) 5 (T.2.1 5)) 6 (T.2.1 6)) ++ (stW G b T ++ X)) H locs := hw
  refine lv_aload_n C.1 C.2.1 dX1_copyFrom_55 rfl (lv_at hl 0 rfl) ?_
  refine r_get C hw 6 rfl rfl in_X1 5 (by decide) fl_X1_32 rfl (v := .ref (a 17)) rfl dX1_copyFrom_56 ?_
  refine lv_aload_n C.1 C.2.1 dX1_copyFrom_59 rfl (lv_at hl 1 rfl) ?_
  refine r_get C hw 25 rfl rfl in_X1 5 (by decide) fl_X1_32 rfl (v := .ref (b 17)) rfl dX1_copyFrom_60 ?_
  refine r_vv C hw (k7_copyFrom hF (strow_7 G a (sR (sR (sR (sR (sR S 2 (T.2.1 2)) 3 (T.2.1 3)) 4 (T.2.1 4)) 5 (T.2.1 5)) 6 (T.2.1 6)) (stW G b T ++ X)) (by decide) (strow_e G a (sR (sR (sR (sR (sR S 2 (T.2.1 2)) 3 (T.2.1 3)) 4 (T.2.1 4)) 5 (T.2.1 5)) 6 (T.2.1 6)) (stW G b T ++ X) 7) (q2 := 36) (q3 := 37) (g := T.2.1 7) ⟨fun _ => rfl, fun _ => rfl⟩) ml_X1_87 yf_X7_copyFrom 17 rfl rfl (As := [.ref (b 17)]) rfl rfl ⟨Nat.le_of_ble_eq_true rfl, Nat.le_of_ble_eq_true rfl⟩ ⟨Nat.le_of_ble_eq_true rfl, Nat.le_of_ble_eq_true rfl⟩ hl.1 (Nat.le_of_ble_eq_true rfl) dX1_copyFrom_63 (fun _ H locs hp_63 hw => ?_)
  replace hw : WH G s (stW G a (sR (sR (sR (sR (sR (sR S 2 (T.2.1 2)) 3 (T.2.1 3)) 4 (T.2.1 4)) 5 (T.2.1 5)) 6 (T.2.1 6)) 7 (T.2.1 7)) ++ (stW G b T ++ X)) H locs := hw
  refine lv_aload_n C.1 C.2.1 dX1_copyFrom_66 rfl (lv_at hl 0 rfl) ?_
  refine lv_aload_n C.1 C.2.1 dX1_copyFrom_67 rfl (lv_at hl 1 rfl) ?_
  refine r_get C hw 25 rfl rfl in_X1 6 (by decide) fl_X1_35 rfl (v := .int (T.1 1)) rfl dX1_copyFrom_68 ?_
  refine r_put C hw 6 rfl rfl in_X1 tyX1 tyX1_ok nmX1 6 (by decide) fl_X1_35 rfl rfl rfl rfl (Nat.le_of_ble_eq_true rfl) (w' := stW G a (sI (sR (sR (sR (sR (sR (sR S 2 (T.2.1 2)) 3 (T.2.1 3)) 4 (T.2.1 4)) 5 (T.2.1 5)) 6 (T.2.1 6)) 7 (T.2.1 7)) 1 (T.1 1)) ++ (stW G b T ++ X)) rfl dX1_copyFrom_71 (fun H locs hw => ?_)
  exact r_vret C hw rfl () (trivial) rfl (Nat.le_of_ble_eq_true rfl) (Nat.le_of_ble_eq_true rfl) dX1_copyFrom_74

