/-! PriceSums: the second way to the spread and the price of the pool -/
def suW (G : Gx) (u : Nat → Nat) (f g : Nat → Int32) : va_W := [(u 0, .inr (8, [.ref (u 1), .ref (u 3)])), (u 1, .inr (9, [.ref (u 2)])), (u 2, .inl (G.2.2.1 0, 100, .inl f)), (u 3, .inr (9, [.ref (u 4)])), (u 4, .inl (G.2.2.1 0, 100, .inl g))]
theorem surow_0 (G : Gx) (a : Nat → Nat) (S : SV) (u : Nat → Nat) (g : Nat → Int32) (X : va_W) : RowW G (fun h => stW G a S ++ (suW G u h g ++ X)) 20 21 (u 1) (u 2) 100 := ⟨fun _ => rfl, fun _ => rfl, fun _ _ => rfl⟩
theorem surow_1 (G : Gx) (a : Nat → Nat) (S : SV) (u : Nat → Nat) (g : Nat → Int32) (X : va_W) : RowW G (fun h => stW G a S ++ (suW G u g h ++ X)) 22 23 (u 3) (u 4) 100 := ⟨fun _ => rfl, fun _ => rfl, fun _ _ => rfl⟩
def guS (S : SV) (k : Nat) (t : (Nat → Int32) × (Nat → Int32)) : (Nat → Int32) × (Nat → Int32) := if buyS S k = true then (radd 100 t.1 (S.2.1 5 k) (S.2.1 6 k), t.2) else (t.1, radd 100 t.2 (S.2.1 5 k) (S.2.1 6 k))
def guR (S : SV) (f g : Nat → Int32) (n : Nat) : (Nat → Int32) × (Nat → Int32) := fr (guS S) n (rclr 100 f, rclr 100 g)
theorem guR_t {S : SV} {f g : Nat → Int32} {k : Nat} {y z : Nat → Int32} (h : guR S f g k = (y, z)) (hb : buyS S k = true) : guR S f g (k + 1) = (radd 100 y (S.2.1 5 k) (S.2.1 6 k), z) := by
  show guS S k (guR S f g k) = _
  rw [h, guS, if_pos hb]
theorem guR_f {S : SV} {f g : Nat → Int32} {k : Nat} {y z : Nat → Int32} (h : guR S f g k = (y, z)) (hb : buyS S k = false) : guR S f g (k + 1) = (y, radd 100 z (S.2.1 5 k) (S.2.1 6 k)) := by
  show guS S k (guR S f g k) = _
  rw [h, guS, if_neg (by rw [hb]; decide)]
/-- the highest price with f, the lowest with g, of 1 to n -/
def ssH (f : Nat → Int32) : Nat → Option Nat
  | 0 => none
  | k + 1 => if 0 < f (k + 1) then some (k + 1) else ssH f k
def ssL (g : Nat → Int32) : Nat → Option Nat
  | 0 => none
  | k + 1 => match ssL g k with
    | some j => some j
    | none => if 0 < g (k + 1) then some (k + 1) else none
theorem ssH_lt {f : Nat → Int32} : ∀ {n j : Nat}, ssH f n = some j → j ≤ n
  | 0, j, h => by cases h
  | n + 1, j, h => by
    rw [ssH] at h
    split at h
    · cases h; omega
    · have := ssH_lt h; omega
theorem ssL_lt {f : Nat → Int32} : ∀ {n j : Nat}, ssL f n = some j → j ≤ n
  | 0, j, h => by cases h
  | n + 1, j, h => by
    cases ho : ssL f n with
    | some q => rw [ssL, ho] at h; cases h; have := ssL_lt ho; omega
    | none =>
      rw [ssL, ho] at h
      dsimp only at h
      split at h
      · cases h; omega
      · cases h
def ssR (f g : Nat → Int32) : Int32 := match ssH f 99, ssL g 99 with
  | some i, some j => nI j - nI i
  | _, _ => 1000
def psD (f : Nat → Int32) : Nat → Int32
  | 0 => rsum 100 f
  | k + 1 => psD f k - f k
def psU (g : Nat → Int32) : Nat → Int32
  | 0 => 0
  | k + 1 => psU g k + g (k + 1)
def psR (f g : Nat → Int32) : Nat → Int32 × Int32 × Int32
  | 0 => (-1, 0, 0)
  | k + 1 => pcs (nI (k + 1)) (psD f (k + 1)) (psU g (k + 1)) (psR f g k)

set_option maxHeartbeats 4000000 in
set_option maxRecDepth 100000 in
theorem k6_gather {l : Launch} {G : Gx} (hF : SF l G) {a : Nat → Nat} {S : SV} {X : va_W} {u : Nat → Nat} {f g : Nat → Int32} {n : Nat} (hc : S.1 1 = nI n) (hn : n ≤ 20) : MV l G yX6_gather cX6_gather 4 2 0 0 [.ref (u 0), .ref (a 6)] (stW G a S ++ (suW G u f g ++ X)) (fun _ => True) (fun _ : Unit => stW G a S ++ (suW G u (guR S f g n).1 (guR S f g n).2 ++ X)) := by
  refine mt_of hF (by decide) (Nat.le_of_ble_eq_true rfl) ?_
  intro p e s m below meth c C hin ls hl H locs hw
  have hl : lv_has ls 4 [(0, .ref (u 0)), (1, .ref (a 6))] := hl
  refine lv_aload_n C.1 C.2.1 dX6_gather_0 rfl (lv_at hl 0 rfl) ?_
  refine r_get C hw 19 rfl rfl in_X6 0 (by decide) fl_X6_14 rfl (v := .ref (u 1)) rfl dX6_gather_1 ?_
  refine r_vv C hw (k7_clear hF (surow_0 G a S u g X) (by decide) rfl) ml_X6_23 yf_X7_clear 20 rfl rfl (As := []) rfl rfl ⟨Nat.le_of_ble_eq_true rfl, Nat.le_of_ble_eq_true rfl⟩ ⟨Nat.le_of_ble_eq_true rfl, Nat.le_of_ble_eq_true rfl⟩ hl.1 (Nat.le_of_ble_eq_true rfl) dX6_gather_4 (fun _ H locs hp_4 hw => ?_)
  replace hw : WH G s (stW G a S ++ (suW G u (rclr 100 f) g ++ X)) H locs := hw
  refine lv_aload_n C.1 C.2.1 dX6_gather_7 rfl (lv_at hl 0 rfl) ?_
  refine r_get C hw 19 rfl rfl in_X6 1 (by decide) fl_X6_20 rfl (v := .ref (u 3)) rfl dX6_gather_8 ?_
  refine r_vv C hw (k7_clear hF (surow_1 G a S u (rclr 100 f) X) (by decide) rfl) ml_X6_23 yf_X7_clear 22 rfl rfl (As := []) rfl rfl ⟨Nat.le_of_ble_eq_true rfl, Nat.le_of_ble_eq_true rfl⟩ ⟨Nat.le_of_ble_eq_true rfl, Nat.le_of_ble_eq_true rfl⟩ hl.1 (Nat.le_of_ble_eq_true rfl) dX6_gather_11 (fun _ H locs hp_11 hw => ?_)
  replace hw : WH G s (stW G a S ++ (suW G u (rclr 100 f) (rclr 100 g) ++ X)) H locs := hw
  refine lv_iconst (v := 0) C.1 C.2.1 dX6_gather_14 (by decide) ?_
  refine lv_istore_n (lv' := [(2, .int 0), (0, .ref (u 0)), (1, .ref (a 6))]) C.1 C.2.1 dX6_gather_15 rfl hl (by decide) rfl (fun ls hl => ?_)
  refine w_loop (σ := Nat × (Nat → Int32) × (Nat → Int32)) G (fun u ⟨k, y, z⟩ => k ≤ n ∧ n < k + u ∧ guR S f g k = (y, z)) (fun ⟨k, y, z⟩ => stW G a S ++ (suW G u y z ++ X)) (fun ⟨k, y, z⟩ => 0) (fun ⟨k, y, z⟩ => 0) (fun ⟨k, y, z⟩ => [(0, .ref (u 0)), (1, .ref (a 6)), (2, .int (nI k))]) 4 ?_ ?_ (n + 1) (0, rclr 100 f, rclr 100 g) (⟨Nat.zero_le _, by omega, rfl⟩) hw (lv_sub hl [1, 2, 0] rfl)
  · rintro n16 ⟨k, y, z⟩ ⟨h1, h2, h3⟩ ih16 H locs hw ls hl
    replace hw : WH G s (stW G a S ++ (suW G u y z ++ X)) H locs := hw
    replace hl : lv_has ls 4 [(0, .ref (u 0)), (1, .ref (a 6)), (2, .int (nI k))] := hl
    refine lv_iload_n C.1 C.2.1 dX6_gather_16 rfl (lv_at hl 2 rfl) ?_
    refine lv_aload_n C.1 C.2.1 dX6_gather_17 rfl (lv_at hl 1 rfl) ?_
    refine r_get C hw 6 rfl rfl in_X1 6 (by decide) fl_X6_26 rfl (v := .int (S.1 1)) rfl dX6_gather_18 ?_
    refine r_toe (show _ = nI n from hc) ?_
    refine lv_icmp_ge (tgt := 70) C.1 C.2.1 dX6_gather_21 (by decide) (fun c_21 => ?_) (fun c_21 => ?_)
    · obtain rfl := le_T h1 (by omega) c_21
      exact r_vret C hw rfl () (trivial) (by rw [h3]) (Nat.le_of_ble_eq_true rfl) (Nat.le_of_ble_eq_true rfl) dX6_gather_70
    · have hk := le_F h1 (by omega) c_21
      refine lv_aload_n C.1 C.2.1 dX6_gather_24 rfl (lv_at hl 1 rfl) ?_
      refine lv_iload_n C.1 C.2.1 dX6_gather_25 rfl (lv_at hl 2 rfl) ?_
      refine r_vi C hw (k1_buys hF (a := a) (S := S) (X := (suW G u y z ++ X)) (j := k) (by omega)) ml_X6_32 yf_X1_buys 6 rfl rfl (As := [.int (nI k)]) rfl rfl ⟨Nat.le_of_ble_eq_true rfl, Nat.le_of_ble_eq_true rfl⟩ ⟨Nat.le_of_ble_eq_true rfl, Nat.le_of_ble_eq_true rfl⟩ hl.1 (Nat.le_of_ble_eq_true rfl) dX6_gather_26 (fun r_26 _ H locs hp_26 hw => ?_)
      obtain rfl : r_26 = bI (buyS S k) := hp_26
      replace hw : WH G s (stW G a S ++ (suW G u y z ++ X)) H locs := hw
      refine lv_if_eq (tgt := 39) C.1 C.2.1 dX6_gather_29 (by decide) (fun c_29 => ?_) (fun c_29 => ?_)
      · have b_29 := bI_eq0.mp c_29
        refine lv_aload_n C.1 C.2.1 dX6_gather_39 rfl (lv_at hl 0 rfl) ?_
        refine r_get C hw 19 rfl rfl in_X6 1 (by decide) fl_X6_20 rfl (v := .ref (u 3)) rfl dX6_gather_40 ?_
        refine lv_astore_n (lv' := [(3, .ref (u 3)), (0, .ref (u 0)), (1, .ref (a 6)), (2, .int (nI k))]) C.1 C.2.1 dX6_gather_43 rfl hl (by decide) rfl (fun ls hl => ?_)
        refine lv_aload_n C.1 C.2.1 dX6_gather_44 rfl (lv_at hl 0 rfl) ?_
        refine lv_aload_n C.1 C.2.1 dX6_gather_45 rfl (lv_at hl 2 rfl) ?_
        refine r_get C hw 6 rfl rfl in_X1 3 (by decide) fl_X6_36 rfl (v := .ref (a 13)) rfl dX6_gather_46 ?_
        refine lv_iload_n C.1 C.2.1 dX6_gather_49 rfl (lv_at hl 3 rfl) ?_
        refine r_vi C hw (k7_get hF (strow_5 G a S (suW G u y z ++ X)) (by decide) (strow_e G a S (suW G u y z ++ X) 5) (nI k)) ml_X6_39 yf_X7_get 13 rfl rfl (As := [.int (nI k)]) rfl rfl ⟨Nat.le_of_ble_eq_true rfl, Nat.le_of_ble_eq_true rfl⟩ ⟨Nat.le_of_ble_eq_true rfl, Nat.le_of_ble_eq_true rfl⟩ hl.1 (Nat.le_of_ble_eq_true rfl) dX6_gather_50 (fun r_50 _ H locs hp_50 hw => ?_)
        obtain rfl : r_50 = ((S.2.1 5) k) := by rw [hp_50]; exact rget_nI (by omega) (by decide)
        replace hw : WH G s (stW G a S ++ (suW G u y z ++ X)) H locs := hw
        refine lv_aload_n C.1 C.2.1 dX6_gather_53 rfl (lv_at hl 2 rfl) ?_
        refine r_get C hw 6 rfl rfl in_X1 4 (by decide) fl_X6_43 rfl (v := .ref (a 15)) rfl dX6_gather_54 ?_
        refine lv_iload_n C.1 C.2.1 dX6_gather_57 rfl (lv_at hl 3 rfl) ?_
        refine r_vi C hw (k7_get hF (strow_6 G a S (suW G u y z ++ X)) (by decide) (strow_e G a S (suW G u y z ++ X) 6) (nI k)) ml_X6_39 yf_X7_get 15 rfl rfl (As := [.int (nI k)]) rfl rfl ⟨Nat.le_of_ble_eq_true rfl, Nat.le_of_ble_eq_true rfl⟩ ⟨Nat.le_of_ble_eq_true rfl, Nat.le_of_ble_eq_true rfl⟩ hl.1 (Nat.le_of_ble_eq_true rfl) dX6_gather_58 (fun r_58 _ H locs hp_58 hw => ?_)
        obtain rfl : r_58 = ((S.2.1 6) k) := by rw [hp_58]; exact rget_nI (by omega) (by decide)
        replace hw : WH G s (stW G a S ++ (suW G u y z ++ X)) H locs := hw
        refine r_vv C hw (k7_add hF (surow_1 G a S u y X) (by decide) rfl ((S.2.1 5) k) ((S.2.1 6) k)) ml_X6_46 yf_X7_add 22 rfl rfl (As := [.int ((S.2.1 5) k), .int ((S.2.1 6) k)]) rfl rfl ⟨Nat.le_of_ble_eq_true rfl, Nat.le_of_ble_eq_true rfl⟩ ⟨Nat.le_of_ble_eq_true rfl, Nat.le_of_ble_eq_true rfl⟩ hl.1 (Nat.le_of_ble_eq_true rfl) dX6_gather_61 (fun _ H locs hp_61 hw => ?_)
        replace hw : WH G s (stW G a S ++ (suW G u y (radd 100 z ((S.2.1 5) k) ((S.2.1 6) k)) ++ X)) H locs := hw
        refine lv_iinc (v := nI (k + 1)) (lv' := [(2, .int (nI (k + 1))), (3, .ref (u 3)), (0, .ref (u 0)), (1, .ref (a 6))]) C.1 C.2.1 dX6_gather_64 hl (k := 3) rfl (inc_nI k) (by decide) rfl (fun ls hl => ?_)
        refine lv_goto (tgt := 16) C.1 C.2.1 dX6_gather_67 (by decide) ?_
        exact ih16 (k + 1, y, (radd 100 z ((S.2.1 5) k) ((S.2.1 6) k))) (⟨by omega, by omega, guR_f h3 b_29⟩) _ _ hw _ (lv_sub hl [2, 3, 0] rfl)
      · have b_29 := bI_ne0.mp c_29
        refine lv_aload_n C.1 C.2.1 dX6_gather_32 rfl (lv_at hl 0 rfl) ?_
        refine r_get C hw 19 rfl rfl in_X6 0 (by decide) fl_X6_14 rfl (v := .ref (u 1)) rfl dX6_gather_33 ?_
        refine lv_goto (tgt := 43) C.1 C.2.1 dX6_gather_36 (by decide) ?_
        refine lv_astore_n (lv' := [(3, .ref (u 1)), (0, .ref (u 0)), (1, .ref (a 6)), (2, .int (nI k))]) C.1 C.2.1 dX6_gather_43 rfl hl (by decide) rfl (fun ls hl => ?_)
        refine lv_aload_n C.1 C.2.1 dX6_gather_44 rfl (lv_at hl 0 rfl) ?_
        refine lv_aload_n C.1 C.2.1 dX6_gather_45 rfl (lv_at hl 2 rfl) ?_
        refine r_get C hw 6 rfl rfl in_X1 3 (by decide) fl_X6_36 rfl (v := .ref (a 13)) rfl dX6_gather_46 ?_
        refine lv_iload_n C.1 C.2.1 dX6_gather_49 rfl (lv_at hl 3 rfl) ?_
        refine r_vi C hw (k7_get hF (strow_5 G a S (suW G u y z ++ X)) (by decide) (strow_e G a S (suW G u y z ++ X) 5) (nI k)) ml_X6_39 yf_X7_get 13 rfl rfl (As := [.int (nI k)]) rfl rfl ⟨Nat.le_of_ble_eq_true rfl, Nat.le_of_ble_eq_true rfl⟩ ⟨Nat.le_of_ble_eq_true rfl, Nat.le_of_ble_eq_true rfl⟩ hl.1 (Nat.le_of_ble_eq_true rfl) dX6_gather_50 (fun r_50 _ H locs hp_50 hw => ?_)
        obtain rfl : r_50 = ((S.2.1 5) k) := by rw [hp_50]; exact rget_nI (by omega) (by decide)
        replace hw : WH G s (stW G a S ++ (suW G u y z ++ X)) H locs := hw
        refine lv_aload_n C.1 C.2.1 dX6_gather_53 rfl (lv_at hl 2 rfl) ?_
        refine r_get C hw 6 rfl rfl in_X1 4 (by decide) fl_X6_43 rfl (v := .ref (a 15)) rfl dX6_gather_54 ?_
        refine lv_iload_n C.1 C.2.1 dX6_gather_57 rfl (lv_at hl 3 rfl) ?_
        refine r_vi C hw (k7_get hF (strow_6 G a S (suW G u y z ++ X)) (by decide) (strow_e G a S (suW G u y z ++ X) 6) (nI k)) ml_X6_39 yf_X7_get 15 rfl rfl (As := [.int (nI k)]) rfl rfl ⟨Nat.le_of_ble_eq_true rfl, Nat.le_of_ble_eq_true rfl⟩ ⟨Nat.le_of_ble_eq_true rfl, Nat.le_of_ble_eq_true rfl⟩ hl.1 (Nat.le_of_ble_eq_true rfl) dX6_gather_58 (fun r_58 _ H locs hp_58 hw => ?_)
        obtain rfl : r_58 = ((S.2.1 6) k) := by rw [hp_58]; exact rget_nI (by omega) (by decide)
        replace hw : WH G s (stW G a S ++ (suW G u y z ++ X)) H locs := hw
        refine r_vv C hw (k7_add hF (surow_0 G a S u z X) (by decide) rfl ((S.2.1 5) k) ((S.2.1 6) k)) ml_X6_46 yf_X7_add 20 rfl rfl (As := [.int ((S.2.1 5) k), .int ((S.2.1 6) k)]) rfl rfl ⟨Nat.le_of_ble_eq_true rfl, Nat.le_of_ble_eq_true rfl⟩ ⟨Nat.le_of_ble_eq_true rfl, Nat.le_of_ble_eq_true rfl⟩ hl.1 (Nat.le_of_ble_eq_true rfl) dX6_gather_61 (fun _ H locs hp_61 hw => ?_)
        replace hw : WH G s (stW G a S ++ (suW G u (radd 100 y ((S.2.1 5) k) ((S.2.1 6) k)) z ++ X)) H locs := hw
        refine lv_iinc (v := nI (k + 1)) (lv' := [(2, .int (nI (k + 1))), (3, .ref (u 1)), (0, .ref (u 0)), (1, .ref (a 6))]) C.1 C.2.1 dX6_gather_64 hl (k := 3) rfl (inc_nI k) (by decide) rfl (fun ls hl => ?_)
        refine lv_goto (tgt := 16) C.1 C.2.1 dX6_gather_67 (by decide) ?_
        exact ih16 (k + 1, (radd 100 y ((S.2.1 5) k) ((S.2.1 6) k)), z) (⟨by omega, by omega, guR_t h3 b_29⟩) _ _ hw _ (lv_sub hl [2, 3, 0] rfl)
  · rintro ⟨k, y, z⟩ ⟨h1, h2, h3⟩; omega

set_option maxHeartbeats 4000000 in
set_option maxRecDepth 100000 in
theorem k6_spreadOfSums {l : Launch} {G : Gx} (hF : SF l G) {a : Nat → Nat} {S : SV} {X : va_W} {u : Nat → Nat} {f g : Nat → Int32} : MI l G yX6_spreadOfSums cX6_spreadOfSums 4 .int 1 0 0 [.ref (u 0)] (stW G a S ++ (suW G u f g ++ X)) (fun r _ => r = ssR f g) (fun _ : Unit => stW G a S ++ (suW G u f g ++ X)) := by
  refine mt_of hF (by decide) (Nat.le_of_ble_eq_true rfl) ?_
  intro p e s m below meth c C hin ls hl H locs hw
  have hl : lv_has ls 4 [(0, .ref (u 0))] := hl
  refine lv_iconst (v := -1) C.1 C.2.1 dX6_spreadOfSums_0 (by decide) ?_
  refine lv_istore_n (lv' := [(1, .int (-1)), (0, .ref (u 0))]) C.1 C.2.1 dX6_spreadOfSums_1 rfl hl (by decide) rfl (fun ls hl => ?_)
  refine lv_iconst (v := -1) C.1 C.2.1 dX6_spreadOfSums_2 (by decide) ?_
  refine lv_istore_n (lv' := [(2, .int (-1)), (1, .int (-1)), (0, .ref (u 0))]) C.1 C.2.1 dX6_spreadOfSums_3 rfl hl (by decide) rfl (fun ls hl => ?_)
  refine lv_iconst (v := 1) C.1 C.2.1 dX6_spreadOfSums_4 (by decide) ?_
  refine lv_istore_n (lv' := [(3, .int 1), (2, .int (-1)), (1, .int (-1)), (0, .ref (u 0))]) C.1 C.2.1 dX6_spreadOfSums_5 rfl hl (by decide) rfl (fun ls hl => ?_)
  refine w_loop (σ := Nat × Option Nat × Option Nat) G (fun u ⟨k, i, j⟩ => k ≤ 99 ∧ 99 < k + u ∧ i = ssH f k ∧ j = ssL g k) (fun ⟨k, i, j⟩ => stW G a S ++ (suW G u f g ++ X)) (fun ⟨k, i, j⟩ => 0) (fun ⟨k, i, j⟩ => 0) (fun ⟨k, i, j⟩ => [(0, .ref (u 0)), (1, .int (oI i)), (2, .int (oI j)), (3, .int (nI (k + 1)))]) 4 ?_ ?_ 100 (0, none, none) (⟨Nat.zero_le _, by omega, rfl, rfl⟩) hw (lv_sub hl [3, 2, 1, 0] rfl)
  · rintro n6 ⟨k, i, j⟩ ⟨h1, h2, h3, h4⟩ ih6 H locs hw ls hl
    replace hw : WH G s (stW G a S ++ (suW G u f g ++ X)) H locs := hw
    replace hl : lv_has ls 4 [(0, .ref (u 0)), (1, .int (oI i)), (2, .int (oI j)), (3, .int (nI (k + 1)))] := hl
    refine lv_iload_n C.1 C.2.1 dX6_spreadOfSums_6 rfl (lv_at hl 3 rfl) ?_
    refine lv_bipush (v := 99) C.1 C.2.1 dX6_spreadOfSums_7 (by decide) ?_
    refine lv_icmp_gt (tgt := 49) C.1 C.2.1 dX6_spreadOfSums_9 (by decide) (fun c_9 => ?_) (fun c_9 => ?_)
    · obtain rfl : k = 99 := by have := lt_T (k := 99) (n := k + 1) (by omega) (by decide) c_9; omega
      refine lv_iload_n C.1 C.2.1 dX6_spreadOfSums_49 rfl (lv_at hl 1 rfl) ?_
      refine lv_iconst (v := -1) C.1 C.2.1 dX6_spreadOfSums_50 (by decide) ?_
      refine lv_icmp_eq (tgt := 59) C.1 C.2.1 dX6_spreadOfSums_51 (by decide) (fun c_51 => ?_) (fun c_51 => ?_)
      · refine lv_sipush (v := 1000) C.1 C.2.1 dX6_spreadOfSums_59 (by decide) ?_
        refine lv_goto (tgt := 68) C.1 C.2.1 dX6_spreadOfSums_62 (by decide) ?_
        exact r_iret C hw rfl rfl () (by cases i with | none => rw [ssR, ← h3] | some q => exact absurd c_51 (nI_ne1 (by have := ssH_lt h3.symm; omega))) rfl (Nat.le_of_ble_eq_true rfl) (Nat.le_of_ble_eq_true rfl) dX6_spreadOfSums_68
      · refine lv_iload_n C.1 C.2.1 dX6_spreadOfSums_54 rfl (lv_at hl 2 rfl) ?_
        refine lv_iconst (v := -1) C.1 C.2.1 dX6_spreadOfSums_55 (by decide) ?_
        refine lv_icmp_ne (tgt := 65) C.1 C.2.1 dX6_spreadOfSums_56 (by decide) (fun c_56 => ?_) (fun c_56 => ?_)
        · refine lv_iload_n C.1 C.2.1 dX6_spreadOfSums_65 rfl (lv_at hl 2 rfl) ?_
          refine lv_iload_n C.1 C.2.1 dX6_spreadOfSums_66 rfl (lv_at hl 1 rfl) ?_
          refine lv_isub C.1 C.2.1 dX6_spreadOfSums_67 ?_
          exact r_iret C hw rfl rfl () (by cases i with | none => exact absurd rfl c_51 | some q => cases j with | none => exact absurd rfl c_56 | some r => rw [ssR, ← h3, ← h4]; rfl) rfl (Nat.le_of_ble_eq_true rfl) (Nat.le_of_ble_eq_true rfl) dX6_spreadOfSums_68
        · refine lv_sipush (v := 1000) C.1 C.2.1 dX6_spreadOfSums_59 (by decide) ?_
          refine lv_goto (tgt := 68) C.1 C.2.1 dX6_spreadOfSums_62 (by decide) ?_
          exact r_iret C hw rfl rfl () (by cases j with | some q => exact absurd c_56 (nI_ne1 (by have := ssL_lt h4.symm; omega)) | none => rw [ssR, ← h3, ← h4]; cases i <;> rfl) rfl (Nat.le_of_ble_eq_true rfl) (Nat.le_of_ble_eq_true rfl) dX6_spreadOfSums_68
    · have hk := lt_F (k := 99) (n := k + 1) (by omega) (by decide) c_9
      refine lv_aload_n C.1 C.2.1 dX6_spreadOfSums_12 rfl (lv_at hl 0 rfl) ?_
      refine r_get C hw 19 rfl rfl in_X6 0 (by decide) fl_X6_14 rfl (v := .ref (u 1)) rfl dX6_spreadOfSums_13 ?_
      refine lv_iload_n C.1 C.2.1 dX6_spreadOfSums_16 rfl (lv_at hl 3 rfl) ?_
      refine r_vi C hw (k7_get hF (surow_0 G a S u g X) (by decide) rfl (nI (k + 1))) ml_X6_39 yf_X7_get 20 rfl rfl (As := [.int (nI (k + 1))]) rfl rfl ⟨Nat.le_of_ble_eq_true rfl, Nat.le_of_ble_eq_true rfl⟩ ⟨Nat.le_of_ble_eq_true rfl, Nat.le_of_ble_eq_true rfl⟩ hl.1 (Nat.le_of_ble_eq_true rfl) dX6_spreadOfSums_17 (fun r_17 _ H locs hp_17 hw => ?_)
      obtain rfl : r_17 = f (k + 1) := by rw [hp_17]; exact rget_nI (by omega) (by decide)
      replace hw : WH G s (stW G a S ++ (suW G u f g ++ X)) H locs := hw
      refine lv_if_le (tgt := 25) C.1 C.2.1 dX6_spreadOfSums_20 (by decide) (fun c_20 => ?_) (fun c_20 => ?_)
      · refine lv_aload_n C.1 C.2.1 dX6_spreadOfSums_25 rfl (lv_at hl 0 rfl) ?_
        refine r_get C hw 19 rfl rfl in_X6 1 (by decide) fl_X6_20 rfl (v := .ref (u 3)) rfl dX6_spreadOfSums_26 ?_
        refine lv_iload_n C.1 C.2.1 dX6_spreadOfSums_29 rfl (lv_at hl 3 rfl) ?_
        refine r_vi C hw (k7_get hF (surow_1 G a S u f X) (by decide) rfl (nI (k + 1))) ml_X6_39 yf_X7_get 22 rfl rfl (As := [.int (nI (k + 1))]) rfl rfl ⟨Nat.le_of_ble_eq_true rfl, Nat.le_of_ble_eq_true rfl⟩ ⟨Nat.le_of_ble_eq_true rfl, Nat.le_of_ble_eq_true rfl⟩ hl.1 (Nat.le_of_ble_eq_true rfl) dX6_spreadOfSums_30 (fun r_30 _ H locs hp_30 hw => ?_)
        obtain rfl : r_30 = g (k + 1) := by rw [hp_30]; exact rget_nI (by omega) (by decide)
        replace hw : WH G s (stW G a S ++ (suW G u f g ++ X)) H locs := hw
        refine lv_if_le (tgt := 43) C.1 C.2.1 dX6_spreadOfSums_33 (by decide) (fun c_33 => ?_) (fun c_33 => ?_)
        · refine lv_iinc (v := nI (k + 1 + 1)) (lv' := [(3, .int (nI (k + 1 + 1))), (0, .ref (u 0)), (1, .int (oI i)), (2, .int (oI j))]) C.1 C.2.1 dX6_spreadOfSums_43 hl (k := 3) rfl (inc_nI (k + 1)) (by decide) rfl (fun ls hl => ?_)
          refine lv_goto (tgt := 6) C.1 C.2.1 dX6_spreadOfSums_46 (by decide) ?_
          exact ih6 (k + 1, i, j) (⟨by omega, by omega, by rw [ssH, if_neg (by rw [Int32.le_iff_toInt_le] at c_20; rw [Int32.lt_iff_toInt_lt]; omega), h3], by rw [ssL, ← h4]; cases j with | some q => rfl | none => exact (if_neg (by rw [Int32.le_iff_toInt_le] at c_33; rw [Int32.lt_iff_toInt_lt]; omega)).symm⟩) _ _ hw _ (lv_sub hl [1, 2, 3, 0] rfl)
        · refine lv_iload_n C.1 C.2.1 dX6_spreadOfSums_36 rfl (lv_at hl 2 rfl) ?_
          refine lv_iconst (v := -1) C.1 C.2.1 dX6_spreadOfSums_37 (by decide) ?_
          refine lv_icmp_ne (tgt := 43) C.1 C.2.1 dX6_spreadOfSums_38 (by decide) (fun c_38 => ?_) (fun c_38 => ?_)
          · refine lv_iinc (v := nI (k + 1 + 1)) (lv' := [(3, .int (nI (k + 1 + 1))), (0, .ref (u 0)), (1, .int (oI i)), (2, .int (oI j))]) C.1 C.2.1 dX6_spreadOfSums_43 hl (k := 3) rfl (inc_nI (k + 1)) (by decide) rfl (fun ls hl => ?_)
            refine lv_goto (tgt := 6) C.1 C.2.1 dX6_spreadOfSums_46 (by decide) ?_
            exact ih6 (k + 1, i, j) (⟨by omega, by omega, by rw [ssH, if_neg (by rw [Int32.le_iff_toInt_le] at c_20; rw [Int32.lt_iff_toInt_lt]; omega), h3], by rw [ssL, ← h4]; cases j with | some q => rfl | none => exact absurd rfl c_38⟩) _ _ hw _ (lv_sub hl [1, 2, 3, 0] rfl)
          · obtain rfl : j = none := (oI_none (fun q hq => by have := ssL_lt (h4.symm.trans hq); omega)).mp c_38
            replace hl : lv_has ls 4 [(0, .ref (u 0)), (1, .int (oI i)), (2, .int (-1)), (3, .int (nI (k + 1)))] := hl
            refine lv_iload_n C.1 C.2.1 dX6_spreadOfSums_41 rfl (lv_at hl 3 rfl) ?_
            refine lv_istore_n (lv' := [(2, .int (nI (k + 1))), (0, .ref (u 0)), (1, .int (oI i)), (3, .int (nI (k + 1)))]) C.1 C.2.1 dX6_spreadOfSums_42 rfl hl (by decide) rfl (fun ls hl => ?_)
            refine lv_iinc (v := nI (k + 1 + 1)) (lv' := [(3, .int (nI (k + 1 + 1))), (2, .int (nI (k + 1))), (0, .ref (u 0)), (1, .int (oI i))]) C.1 C.2.1 dX6_spreadOfSums_43 hl (k := 3) rfl (inc_nI (k + 1)) (by decide) rfl (fun ls hl => ?_)
            refine lv_goto (tgt := 6) C.1 C.2.1 dX6_spreadOfSums_46 (by decide) ?_
            exact ih6 (k + 1, i, some (k + 1)) (⟨by omega, by omega, by rw [ssH, if_neg (by rw [Int32.le_iff_toInt_le] at c_20; rw [Int32.lt_iff_toInt_lt]; omega), h3], by rw [ssL, ← h4]; exact (if_pos (by rw [Int32.le_iff_toInt_le] at c_33; rw [Int32.lt_iff_toInt_lt]; omega)).symm⟩) _ _ hw _ (lv_sub hl [2, 3, 1, 0] rfl)
      · refine lv_iload_n C.1 C.2.1 dX6_spreadOfSums_23 rfl (lv_at hl 3 rfl) ?_
        refine lv_istore_n (lv' := [(1, .int (nI (k + 1))), (0, .ref (u 0)), (2, .int (oI j)), (3, .int (nI (k + 1)))]) C.1 C.2.1 dX6_spreadOfSums_24 rfl hl (by decide) rfl (fun ls hl => ?_)
        refine lv_aload_n C.1 C.2.1 dX6_spreadOfSums_25 rfl (lv_at hl 1 rfl) ?_
        refine r_get C hw 19 rfl rfl in_X6 1 (by decide) fl_X6_20 rfl (v := .ref (u 3)) rfl dX6_spreadOfSums_26 ?_
        refine lv_iload_n C.1 C.2.1 dX6_spreadOfSums_29 rfl (lv_at hl 3 rfl) ?_
        refine r_vi C hw (k7_get hF (surow_1 G a S u f X) (by decide) rfl (nI (k + 1))) ml_X6_39 yf_X7_get 22 rfl rfl (As := [.int (nI (k + 1))]) rfl rfl ⟨Nat.le_of_ble_eq_true rfl, Nat.le_of_ble_eq_true rfl⟩ ⟨Nat.le_of_ble_eq_true rfl, Nat.le_of_ble_eq_true rfl⟩ hl.1 (Nat.le_of_ble_eq_true rfl) dX6_spreadOfSums_30 (fun r_30 _ H locs hp_30 hw => ?_)
        obtain rfl : r_30 = g (k + 1) := by rw [hp_30]; exact rget_nI (by omega) (by decide)
        replace hw : WH G s (stW G a S ++ (suW G u f g ++ X)) H locs := hw
        refine lv_if_le (tgt := 43) C.1 C.2.1 dX6_spreadOfSums_33 (by decide) (fun c_33 => ?_) (fun c_33 => ?_)
        · refine lv_iinc (v := nI (k + 1 + 1)) (lv' := [(3, .int (nI (k + 1 + 1))), (1, .int (nI (k + 1))), (0, .ref (u 0)), (2, .int (oI j))]) C.1 C.2.1 dX6_spreadOfSums_43 hl (k := 3) rfl (inc_nI (k + 1)) (by decide) rfl (fun ls hl => ?_)
          refine lv_goto (tgt := 6) C.1 C.2.1 dX6_spreadOfSums_46 (by decide) ?_
          exact ih6 (k + 1, some (k + 1), j) (⟨by omega, by omega, by rw [ssH, if_pos (by rw [Int32.le_iff_toInt_le] at c_20; rw [Int32.lt_iff_toInt_lt]; omega)], by rw [ssL, ← h4]; cases j with | some q => rfl | none => exact (if_neg (by rw [Int32.le_iff_toInt_le] at c_33; rw [Int32.lt_iff_toInt_lt]; omega)).symm⟩) _ _ hw _ (lv_sub hl [2, 1, 3, 0] rfl)
        · refine lv_iload_n C.1 C.2.1 dX6_spreadOfSums_36 rfl (lv_at hl 2 rfl) ?_
          refine lv_iconst (v := -1) C.1 C.2.1 dX6_spreadOfSums_37 (by decide) ?_
          refine lv_icmp_ne (tgt := 43) C.1 C.2.1 dX6_spreadOfSums_38 (by decide) (fun c_38 => ?_) (fun c_38 => ?_)
          · refine lv_iinc (v := nI (k + 1 + 1)) (lv' := [(3, .int (nI (k + 1 + 1))), (1, .int (nI (k + 1))), (0, .ref (u 0)), (2, .int (oI j))]) C.1 C.2.1 dX6_spreadOfSums_43 hl (k := 3) rfl (inc_nI (k + 1)) (by decide) rfl (fun ls hl => ?_)
            refine lv_goto (tgt := 6) C.1 C.2.1 dX6_spreadOfSums_46 (by decide) ?_
            exact ih6 (k + 1, some (k + 1), j) (⟨by omega, by omega, by rw [ssH, if_pos (by rw [Int32.le_iff_toInt_le] at c_20; rw [Int32.lt_iff_toInt_lt]; omega)], by rw [ssL, ← h4]; cases j with | some q => rfl | none => exact absurd rfl c_38⟩) _ _ hw _ (lv_sub hl [2, 1, 3, 0] rfl)
          · obtain rfl : j = none := (oI_none (fun q hq => by have := ssL_lt (h4.symm.trans hq); omega)).mp c_38
            replace hl : lv_has ls 4 [(1, .int (nI (k + 1))), (0, .ref (u 0)), (2, .int (-1)), (3, .int (nI (k + 1)))] := hl
            refine lv_iload_n C.1 C.2.1 dX6_spreadOfSums_41 rfl (lv_at hl 3 rfl) ?_
            refine lv_istore_n (lv' := [(2, .int (nI (k + 1))), (1, .int (nI (k + 1))), (0, .ref (u 0)), (3, .int (nI (k + 1)))]) C.1 C.2.1 dX6_spreadOfSums_42 rfl hl (by decide) rfl (fun ls hl => ?_)
            refine lv_iinc (v := nI (k + 1 + 1)) (lv' := [(3, .int (nI (k + 1 + 1))), (2, .int (nI (k + 1))), (1, .int (nI (k + 1))), (0, .ref (u 0))]) C.1 C.2.1 dX6_spreadOfSums_43 hl (k := 3) rfl (inc_nI (k + 1)) (by decide) rfl (fun ls hl => ?_)
            refine lv_goto (tgt := 6) C.1 C.2.1 dX6_spreadOfSums_46 (by decide) ?_
            exact ih6 (k + 1, some (k + 1), some (k + 1)) (⟨by omega, by omega, by rw [ssH, if_pos (by rw [Int32.le_iff_toInt_le] at c_20; rw [Int32.lt_iff_toInt_lt]; omega)], by rw [ssL, ← h4]; exact (if_pos (by rw [Int32.le_iff_toInt_le] at c_33; rw [Int32.lt_iff_toInt_lt]; omega)).symm⟩) _ _ hw _ (lv_sub hl [3, 2, 1, 0] rfl)
  · rintro ⟨k, i, j⟩ ⟨h1, h2, h3, h4⟩; omega

theorem pnew2 (A B X : va_W) (x : Nat × va_E) : List.Perm ((A ++ (B ++ X)) ++ [x]) (A ++ (B ++ (x :: X))) := by
  have h := pnew (A ++ B) X x
  simpa only [List.append_assoc] using h
set_option maxHeartbeats 4000000 in
set_option maxRecDepth 100000 in
theorem k6_poolBySums {l : Launch} {G : Gx} (hF : SF l G) {a : Nat → Nat} {S : SV} {X : va_W} {u : Nat → Nat} {f g : Nat → Int32} : MR l G yX6_poolBySums cX6_poolBySums 5 (.object "DropMarket$PoolChoice") 2 1 3 [.ref (u 0)] (stW G a S ++ (suW G u f g ++ X)) (fun _ => True) (fun (_ : Unit) q => stW G a S ++ (suW G u f g ++ ((q, .inr (7, pcE (psR f g 99))) :: X))) := by
  refine mt_of hF (by decide) (Nat.le_of_ble_eq_true rfl) ?_
  intro p e s m below meth c C hin ls hl H locs hw
  have hl : lv_has ls 5 [(0, .ref (u 0))] := hl
  refine r_new C hw cl_X6_50 isb_X5 ini_X5 (ci := 7) rfl in_X5 tyX5 tyX5_ok (fs := pcE (0, 0, 0)) (fun j hj => by rcases (show j = 0 ∨ j = 1 ∨ j = 2 by omega) with rfl | rfl | rfl <;> rfl) (w' := fun q => stW G a S ++ (suW G u f g ++ ((q, .inr (7, pcE (0, 0, 0))) :: X))) (fun q => pnew2 _ _ _ _) (Nat.le_of_ble_eq_true rfl) (Nat.le_of_ble_eq_true rfl) dX6_poolBySums_0 (fun q_0 H locs hw => ?_)
  replace hw : WH G s (stW G a S ++ (suW G u f g ++ ((q_0, .inr (7, pcE (0, 0, 0))) :: X))) H locs := hw
  refine lv_dup C.1 C.2.1 dX6_poolBySums_3 rfl ?_
  refine r_nv C hw (k5_init hF (W := fun t => stW G a S ++ (suW G u f g ++ ((q_0, .inr (7, pcE t)) :: X))) (q0 := 24) ⟨fun _ => rfl, fun _ _ => rfl⟩ (t := (0, 0, 0)) rfl) mn_X6_52 yf_X5_init rfl (As := []) rfl rfl ⟨Nat.le_of_ble_eq_true rfl, Nat.le_of_ble_eq_true rfl⟩ ⟨Nat.le_of_ble_eq_true rfl, Nat.le_of_ble_eq_true rfl⟩ hl.1 (Nat.le_of_ble_eq_true rfl) dX6_poolBySums_4 (fun _ H locs hp_4 hw => ?_)
  replace hw : WH G s (stW G a S ++ (suW G u f g ++ ((q_0, .inr (7, pcE (-1, 0, 0))) :: X))) H locs := hw
  refine lv_astore_n (lv' := [(1, .ref q_0), (0, .ref (u 0))]) C.1 C.2.1 dX6_poolBySums_7 rfl hl (by decide) rfl (fun ls hl => ?_)
  refine lv_aload_n C.1 C.2.1 dX6_poolBySums_8 rfl (lv_at hl 1 rfl) ?_
  refine r_get C hw 19 rfl rfl in_X6 0 (by decide) fl_X6_14 rfl (v := .ref (u 1)) rfl dX6_poolBySums_9 ?_
  refine r_vi C hw (k7_sum hF (surow_0 G a S u g ((q_0, .inr (7, pcE (-1, 0, 0))) :: X)) (by decide) rfl) ml_X6_53 yf_X7_sum 20 rfl rfl (As := []) rfl rfl ⟨Nat.le_of_ble_eq_true rfl, Nat.le_of_ble_eq_true rfl⟩ ⟨Nat.le_of_ble_eq_true rfl, Nat.le_of_ble_eq_true rfl⟩ hl.1 (Nat.le_of_ble_eq_true rfl) dX6_poolBySums_12 (fun r_12 _ H locs hp_12 hw => ?_)
  obtain rfl : r_12 = rsum 100 f := hp_12
  replace hw : WH G s (stW G a S ++ (suW G u f g ++ ((q_0, .inr (7, pcE (-1, 0, 0))) :: X))) H locs := hw
  refine lv_istore_n (lv' := [(2, .int (rsum 100 f)), (1, .ref q_0), (0, .ref (u 0))]) C.1 C.2.1 dX6_poolBySums_15 rfl hl (by decide) rfl (fun ls hl => ?_)
  refine lv_iconst (v := 0) C.1 C.2.1 dX6_poolBySums_16 (by decide) ?_
  refine lv_istore_n (lv' := [(3, .int 0), (2, .int (rsum 100 f)), (1, .ref q_0), (0, .ref (u 0))]) C.1 C.2.1 dX6_poolBySums_17 rfl hl (by decide) rfl (fun ls hl => ?_)
  refine lv_iconst (v := 1) C.1 C.2.1 dX6_poolBySums_18 (by decide) ?_
  refine lv_istore (lv' := [(4, .int 1), (3, .int 0), (2, .int (rsum 100 f)), (1, .ref q_0), (0, .ref (u 0))]) C.1 C.2.1 dX6_poolBySums_19 hl (by decide) rfl (fun ls hl => ?_)
  refine w_loop (σ := Nat) G (fun u k => k ≤ 99 ∧ 99 < k + u) (fun k => stW G a S ++ (suW G u f g ++ ((q_0, .inr (7, pcE (psR f g k))) :: X))) (fun k => 1) (fun k => 3) (fun k => [(0, .ref (u 0)), (1, .ref q_0), (2, .int (psD f k)), (3, .int (psU g k)), (4, .int (nI (k + 1)))]) 5 ?_ ?_ 100 0 (⟨Nat.zero_le _, by omega⟩) hw (lv_sub hl [4, 3, 2, 1, 0] rfl)
  · rintro n21 k ⟨h1, h2⟩ ih21 H locs hw ls hl
    replace hw : WH G s (stW G a S ++ (suW G u f g ++ ((q_0, .inr (7, pcE (psR f g k))) :: X))) H locs := hw
    replace hl : lv_has ls 5 [(0, .ref (u 0)), (1, .ref q_0), (2, .int (psD f k)), (3, .int (psU g k)), (4, .int (nI (k + 1)))] := hl
    refine lv_iload C.1 C.2.1 dX6_poolBySums_21 (lv_at hl 4 rfl) ?_
    refine lv_bipush (v := 99) C.1 C.2.1 dX6_poolBySums_23 (by decide) ?_
    refine lv_icmp_gt (tgt := 68) C.1 C.2.1 dX6_poolBySums_25 (by decide) (fun c_25 => ?_) (fun c_25 => ?_)
    · obtain rfl : k = 99 := by have := lt_T (k := 99) (n := k + 1) (by omega) (by decide) c_25; omega
      refine lv_aload_n C.1 C.2.1 dX6_poolBySums_68 rfl (lv_at hl 1 rfl) ?_
      exact r_rret C hw rfl (Or.inl ⟨_, rfl⟩) () (trivial) rfl (Nat.le_of_ble_eq_true rfl) (Nat.le_of_ble_eq_true rfl) dX6_poolBySums_69
    · have hk := lt_F (k := 99) (n := k + 1) (by omega) (by decide) c_25
      refine lv_iload_n C.1 C.2.1 dX6_poolBySums_28 rfl (lv_at hl 2 rfl) ?_
      refine lv_aload_n C.1 C.2.1 dX6_poolBySums_29 rfl (lv_at hl 0 rfl) ?_
      refine r_get C hw 19 rfl rfl in_X6 0 (by decide) fl_X6_14 rfl (v := .ref (u 1)) rfl dX6_poolBySums_30 ?_
      refine lv_iload C.1 C.2.1 dX6_poolBySums_33 (lv_at hl 4 rfl) ?_
      refine lv_iconst (v := 1) C.1 C.2.1 dX6_poolBySums_35 (by decide) ?_
      refine lv_isub C.1 C.2.1 dX6_poolBySums_36 ?_
      refine r_toe (show _ = nI k from by rw [nI_pred]) ?_
      refine r_vi C hw (k7_get hF (surow_0 G a S u g ((q_0, .inr (7, pcE (psR f g k))) :: X)) (by decide) rfl (nI k)) ml_X6_39 yf_X7_get 20 rfl rfl (As := [.int (nI k)]) rfl rfl ⟨Nat.le_of_ble_eq_true rfl, Nat.le_of_ble_eq_true rfl⟩ ⟨Nat.le_of_ble_eq_true rfl, Nat.le_of_ble_eq_true rfl⟩ hl.1 (Nat.le_of_ble_eq_true rfl) dX6_poolBySums_37 (fun r_37 _ H locs hp_37 hw => ?_)
      obtain rfl : r_37 = f k := by rw [hp_37]; exact rget_nI (by omega) (by decide)
      replace hw : WH G s (stW G a S ++ (suW G u f g ++ ((q_0, .inr (7, pcE (psR f g k))) :: X))) H locs := hw
      refine lv_isub C.1 C.2.1 dX6_poolBySums_40 ?_
      refine r_toe (show _ = psD f (k + 1) from rfl) ?_
      refine lv_istore_n (lv' := [(2, .int (psD f (k + 1))), (0, .ref (u 0)), (1, .ref q_0), (3, .int (psU g k)), (4, .int (nI (k + 1)))]) C.1 C.2.1 dX6_poolBySums_41 rfl hl (by decide) rfl (fun ls hl => ?_)
      refine lv_iload_n C.1 C.2.1 dX6_poolBySums_42 rfl (lv_at hl 3 rfl) ?_
      refine lv_aload_n C.1 C.2.1 dX6_poolBySums_43 rfl (lv_at hl 1 rfl) ?_
      refine r_get C hw 19 rfl rfl in_X6 1 (by decide) fl_X6_20 rfl (v := .ref (u 3)) rfl dX6_poolBySums_44 ?_
      refine lv_iload C.1 C.2.1 dX6_poolBySums_47 (lv_at hl 4 rfl) ?_
      refine r_vi C hw (k7_get hF (surow_1 G a S u f ((q_0, .inr (7, pcE (psR f g k))) :: X)) (by decide) rfl (nI (k + 1))) ml_X6_39 yf_X7_get 22 rfl rfl (As := [.int (nI (k + 1))]) rfl rfl ⟨Nat.le_of_ble_eq_true rfl, Nat.le_of_ble_eq_true rfl⟩ ⟨Nat.le_of_ble_eq_true rfl, Nat.le_of_ble_eq_true rfl⟩ hl.1 (Nat.le_of_ble_eq_true rfl) dX6_poolBySums_49 (fun r_49 _ H locs hp_49 hw => ?_)
      obtain rfl : r_49 = g (k + 1) := by rw [hp_49]; exact rget_nI (by omega) (by decide)
      replace hw : WH G s (stW G a S ++ (suW G u f g ++ ((q_0, .inr (7, pcE (psR f g k))) :: X))) H locs := hw
      refine lv_iadd C.1 C.2.1 dX6_poolBySums_52 ?_
      refine r_toe (show _ = psU g (k + 1) from rfl) ?_
      refine lv_istore_n (lv' := [(3, .int (psU g (k + 1))), (2, .int (psD f (k + 1))), (0, .ref (u 0)), (1, .ref q_0), (4, .int (nI (k + 1)))]) C.1 C.2.1 dX6_poolBySums_53 rfl hl (by decide) rfl (fun ls hl => ?_)
      refine lv_aload_n C.1 C.2.1 dX6_poolBySums_54 rfl (lv_at hl 3 rfl) ?_
      refine lv_iload C.1 C.2.1 dX6_poolBySums_55 (lv_at hl 4 rfl) ?_
      refine lv_iload_n C.1 C.2.1 dX6_poolBySums_57 rfl (lv_at hl 1 rfl) ?_
      refine lv_iload_n C.1 C.2.1 dX6_poolBySums_58 rfl (lv_at hl 0 rfl) ?_
      refine r_vv C hw (k5_consider hF (W := fun t => stW G a S ++ (suW G u f g ++ ((q_0, .inr (7, pcE t)) :: X))) (q0 := 24) ⟨fun _ => rfl, fun _ _ => rfl⟩ (t := psR f g k) rfl (nI (k + 1)) (psD f (k + 1)) (psU g (k + 1))) ml_X6_57 yf_X5_consider 24 rfl rfl (As := [.int (nI (k + 1)), .int (psD f (k + 1)), .int (psU g (k + 1))]) rfl rfl ⟨Nat.le_of_ble_eq_true rfl, Nat.le_of_ble_eq_true rfl⟩ ⟨Nat.le_of_ble_eq_true rfl, Nat.le_of_ble_eq_true rfl⟩ hl.1 (Nat.le_of_ble_eq_true rfl) dX6_poolBySums_59 (fun _ H locs hp_59 hw => ?_)
      replace hw : WH G s (stW G a S ++ (suW G u f g ++ ((q_0, .inr (7, pcE (psR f g (k + 1)))) :: X))) H locs := hw
      refine lv_iinc (v := nI (k + 1 + 1)) (lv' := [(4, .int (nI (k + 1 + 1))), (3, .int (psU g (k + 1))), (2, .int (psD f (k + 1))), (0, .ref (u 0)), (1, .ref q_0)]) C.1 C.2.1 dX6_poolBySums_62 hl (k := 4) rfl (inc_nI (k + 1)) (by decide) rfl (fun ls hl => ?_)
      refine lv_goto (tgt := 21) C.1 C.2.1 dX6_poolBySums_65 (by decide) ?_
      exact ih21 (k + 1) (⟨by omega, by omega⟩) _ _ hw _ (lv_sub hl [3, 4, 2, 1, 0] rfl)
  · rintro k ⟨h1, h2⟩; omega

