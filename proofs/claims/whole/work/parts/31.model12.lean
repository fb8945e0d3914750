/-! The model: lines -/
theorem i2c_nI {n : Nat} (h : n < 65536) : ((nI n).toUInt32 % 65536).toInt32 = nI n := by rw [pk_char, pk_tn (by omega), Nat.mod_eq_of_lt h]
def amL (q n : Nat) : List Int32 := dgL 4 q ++ [120] ++ dgL 4 n
theorem amL_len {q n : Nat} : (amL q n).length ≤ 11 ∧ 3 ≤ (amL q n).length := by
  have h1 := @dgL_len 4 q
  have h2 := @dgL_len 4 n
  unfold amL
  simp only [List.length_append, List.length_singleton]
  omega

set_option maxHeartbeats 4000000 in
set_option maxRecDepth 100000 in
theorem k12_saysNumber_0 {l : Launch} {G : Gx} (hF : SF l G) {mo : Nat → Nat} {U : MV_} {X : va_W} {k : Nat} (hk1 : U.1 3 = nI k) {n : Nat} (hn : n < 10) (hk : k + 1 ≤ 40) : MV l G yX12_saysNumber cX12_saysNumber 2 1 0 0 [.ref (mo 0), .int (nI n)] (moW G mo U ++ X) (fun _ => True) (fun _ : Unit => moW G mo (syU U k (dgL 0 n)) ++ X) := by
  refine mt_of hF (by decide) (Nat.le_of_ble_eq_true rfl) ?_
  intro p e s m below meth c C hin ls hl H locs hw
  have hl : lv_has ls 2 [(0, .ref (mo 0)), (1, .int (nI n))] := hl
  refine lv_iload_n C.1 C.2.1 dX12_saysNumber_0 rfl (lv_at hl 1 rfl) ?_
  refine lv_bipush (v := 9) C.1 C.2.1 dX12_saysNumber_1 (by decide) ?_
  refine lv_icmp_le (tgt := 14) C.1 C.2.1 dX12_saysNumber_3 (by decide) (fun c_3 => ?_) (fun c_3 => absurd ((nI_leI (a := n) (b := 9) (by omega) (by decide)).mpr (by omega)) c_3)
  refine lv_aload_n C.1 C.2.1 dX12_saysNumber_14 rfl (lv_at hl 0 rfl) ?_
  refine lv_bipush (v := 48) C.1 C.2.1 dX12_saysNumber_15 (by decide) ?_
  refine lv_iload_n C.1 C.2.1 dX12_saysNumber_17 rfl (lv_at hl 1 rfl) ?_
  refine lv_bipush (v := 10) C.1 C.2.1 dX12_saysNumber_18 (by decide) ?_
  refine lv_irem C.1 C.2.1 dX12_saysNumber_20 (by decide) ?_
  refine r_toe (show _ = nI (n % 10) from pk_rem (d := 10) (by omega) (by decide) (by decide)) ?_
  refine lv_iadd C.1 C.2.1 dX12_saysNumber_21 ?_
  refine r_toe (nI_add 48 (n % 10)) ?_
  refine lv_i2c (v := ((nI (48 + (n % 10))).toUInt32 % 65536).toInt32) C.1 C.2.1 dX12_saysNumber_22 rfl ?_
  refine r_toe (show _ = nI (48 + (n % 10)) from i2c_nI (by omega)) ?_
  refine r_vv C hw (k12_says hF (mo := mo) (U := U) (X := X) (k := k) hk1 (by (try simp only [List.length_append, List.length_singleton, List.length_cons, List.length_nil]); omega) (nI (48 + (n % 10)))) ml_X12_171 yf_X12_says 0 rfl rfl (As := [.int (nI (48 + (n % 10)))]) rfl rfl ⟨Nat.le_of_ble_eq_true rfl, Nat.le_of_ble_eq_true rfl⟩ ⟨Nat.le_of_ble_eq_true rfl, Nat.le_of_ble_eq_true rfl⟩ hl.1 (Nat.le_of_ble_eq_true rfl) dX12_saysNumber_23 (fun _ H locs hp_23 hw => ?_)
  replace hw : WH G s (moW G mo (syU U k ([(nI (48 + (n % 10)))])) ++ X) H locs := hw
  exact r_vret C hw rfl () (trivial) rfl (Nat.le_of_ble_eq_true rfl) (Nat.le_of_ble_eq_true rfl) dX12_saysNumber_26

set_option maxHeartbeats 4000000 in
set_option maxRecDepth 100000 in
theorem k12_saysNumber_1 {l : Launch} {G : Gx} (hF : SF l G) {mo : Nat → Nat} {U : MV_} {X : va_W} {k : Nat} (hk1 : U.1 3 = nI k) {n : Nat} (hn : n < 100) (hk : k + 2 ≤ 40) : MV l G yX12_saysNumber cX12_saysNumber 2 2 0 0 [.ref (mo 0), .int (nI n)] (moW G mo U ++ X) (fun _ => True) (fun _ : Unit => moW G mo (syU U k (dgL 1 n)) ++ X) := by
  refine mt_of hF (by decide) (Nat.le_of_ble_eq_true rfl) ?_
  intro p e s m below meth c C hin ls hl H locs hw
  have hl : lv_has ls 2 [(0, .ref (mo 0)), (1, .int (nI n))] := hl
  refine lv_iload_n C.1 C.2.1 dX12_saysNumber_0 rfl (lv_at hl 1 rfl) ?_
  refine lv_bipush (v := 9) C.1 C.2.1 dX12_saysNumber_1 (by decide) ?_
  refine lv_icmp_le (tgt := 14) C.1 C.2.1 dX12_saysNumber_3 (by decide) (fun c_3 => ?_) (fun c_3 => ?_)
  · have hz : n ≤ 9 := (nI_leI (by omega) (by decide)).mp c_3
    refine lv_aload_n C.1 C.2.1 dX12_saysNumber_14 rfl (lv_at hl 0 rfl) ?_
    refine lv_bipush (v := 48) C.1 C.2.1 dX12_saysNumber_15 (by decide) ?_
    refine lv_iload_n C.1 C.2.1 dX12_saysNumber_17 rfl (lv_at hl 1 rfl) ?_
    refine lv_bipush (v := 10) C.1 C.2.1 dX12_saysNumber_18 (by decide) ?_
    refine lv_irem C.1 C.2.1 dX12_saysNumber_20 (by decide) ?_
    refine r_toe (show _ = nI (n % 10) from pk_rem (d := 10) (by omega) (by decide) (by decide)) ?_
    refine lv_iadd C.1 C.2.1 dX12_saysNumber_21 ?_
    refine r_toe (nI_add 48 (n % 10)) ?_
    refine lv_i2c (v := ((nI (48 + (n % 10))).toUInt32 % 65536).toInt32) C.1 C.2.1 dX12_saysNumber_22 rfl ?_
    refine r_toe (show _ = nI (48 + (n % 10)) from i2c_nI (by omega)) ?_
    refine r_vv C hw (k12_says hF (mo := mo) (U := U) (X := X) (k := k) hk1 (by (try simp only [List.length_append, List.length_singleton, List.length_cons, List.length_nil]); omega) (nI (48 + (n % 10)))) ml_X12_171 yf_X12_says 0 rfl rfl (As := [.int (nI (48 + (n % 10)))]) rfl rfl ⟨Nat.le_of_ble_eq_true rfl, Nat.le_of_ble_eq_true rfl⟩ ⟨Nat.le_of_ble_eq_true rfl, Nat.le_of_ble_eq_true rfl⟩ hl.1 (Nat.le_of_ble_eq_true rfl) dX12_saysNumber_23 (fun _ H locs hp_23 hw => ?_)
    replace hw : WH G s (moW G mo (syU U k ([(nI (48 + (n % 10)))])) ++ X) H locs := hw
    exact r_vret C hw rfl () (trivial) (by rw [show dgL 1 n = [nI (48 + n % 10)] from if_pos hz]) (Nat.le_of_ble_eq_true rfl) (Nat.le_of_ble_eq_true rfl) dX12_saysNumber_26
  · have hz : ¬ n ≤ 9 := fun q => c_3 ((nI_leI (by omega) (by decide)).mpr q)
    refine lv_aload_n C.1 C.2.1 dX12_saysNumber_6 rfl (lv_at hl 0 rfl) ?_
    refine lv_iload_n C.1 C.2.1 dX12_saysNumber_7 rfl (lv_at hl 1 rfl) ?_
    refine lv_bipush (v := 10) C.1 C.2.1 dX12_saysNumber_8 (by decide) ?_
    refine lv_idiv C.1 C.2.1 dX12_saysNumber_10 (by decide) ?_
    refine r_toe (show _ = nI (n / 10) from pk_div (d := 10) (by omega) (by decide) (by decide)) ?_
    have hln_11 := @dgL_len 0 (n / 10)
    refine r_vv C hw (k12_saysNumber_0 hF (mo := mo) (U := U) (X := X) (k := k) hk1 (n := (n / 10)) (by omega) (by (try simp only [List.length_append, List.length_singleton, List.length_cons, List.length_nil]); omega)) ml_X12_168 yf_X12_saysNumber 0 rfl rfl (As := [.int (nI (n / 10))]) rfl rfl ⟨Nat.le_of_ble_eq_true rfl, Nat.le_of_ble_eq_true rfl⟩ ⟨Nat.le_of_ble_eq_true rfl, Nat.le_of_ble_eq_true rfl⟩ hl.1 (Nat.le_of_ble_eq_true rfl) dX12_saysNumber_11 (fun _ H locs hp_11 hw => ?_)
    replace hw : WH G s (moW G mo (syU U k (dgL 0 (n / 10))) ++ X) H locs := hw
    refine lv_aload_n C.1 C.2.1 dX12_saysNumber_14 rfl (lv_at hl 0 rfl) ?_
    refine lv_bipush (v := 48) C.1 C.2.1 dX12_saysNumber_15 (by decide) ?_
    refine lv_iload_n C.1 C.2.1 dX12_saysNumber_17 rfl (lv_at hl 1 rfl) ?_
    refine lv_bipush (v := 10) C.1 C.2.1 dX12_saysNumber_18 (by decide) ?_
    refine lv_irem C.1 C.2.1 dX12_saysNumber_20 (by decide) ?_
    refine r_toe (show _ = nI (n % 10) from pk_rem (d := 10) (by omega) (by decide) (by decide)) ?_
    refine lv_iadd C.1 C.2.1 dX12_saysNumber_21 ?_
    refine r_toe (nI_add 48 (n % 10)) ?_
    refine lv_i2c (v := ((nI (48 + (n % 10))).toUInt32 % 65536).toInt32) C.1 C.2.1 dX12_saysNumber_22 rfl ?_
    refine r_toe (show _ = nI (48 + (n % 10)) from i2c_nI (by omega)) ?_
    refine r_vv C hw (k12_says hF (mo := mo) (U := (syU U k (dgL 0 (n / 10)))) (X := X) (k := (k + ((dgL 0 (n / 10))).length)) syU_3 (by (try simp only [List.length_append, List.length_singleton, List.length_cons, List.length_nil]); omega) (nI (48 + (n % 10)))) ml_X12_171 yf_X12_says 0 rfl rfl (As := [.int (nI (48 + (n % 10)))]) rfl rfl ⟨Nat.le_of_ble_eq_true rfl, Nat.le_of_ble_eq_true rfl⟩ ⟨Nat.le_of_ble_eq_true rfl, Nat.le_of_ble_eq_true rfl⟩ hl.1 (Nat.le_of_ble_eq_true rfl) dX12_saysNumber_23 (fun _ H locs hp_23 hw => ?_)
    rw [syU_app rfl] at hw
    replace hw : WH G s (moW G mo (syU U k ((dgL 0 (n / 10)) ++ [(nI (48 + (n % 10)))])) ++ X) H locs := hw
    exact r_vret C hw rfl () (trivial) (by rw [show dgL 1 n = dgL 0 (n / 10) ++ [nI (48 + n % 10)] from if_neg hz]) (Nat.le_of_ble_eq_true rfl) (Nat.le_of_ble_eq_true rfl) dX12_saysNumber_26

set_option maxHeartbeats 4000000 in
set_option maxRecDepth 100000 in
theorem k12_saysNumber_2 {l : Launch} {G : Gx} (hF : SF l G) {mo : Nat → Nat} {U : MV_} {X : va_W} {k : Nat} (hk1 : U.1 3 = nI k) {n : Nat} (hn : n < 1000) (hk : k + 3 ≤ 40) : MV l G yX12_saysNumber cX12_saysNumber 2 3 0 0 [.ref (mo 0), .int (nI n)] (moW G mo U ++ X) (fun _ => True) (fun _ : Unit => moW G mo (syU U k (dgL 2 n)) ++ X) := by
  refine mt_of hF (by decide) (Nat.le_of_ble_eq_true rfl) ?_
  intro p e s m below meth c C hin ls hl H locs hw
  have hl : lv_has ls 2 [(0, .ref (mo 0)), (1, .int (nI n))] := hl
  refine lv_iload_n C.1 C.2.1 dX12_saysNumber_0 rfl (lv_at hl 1 rfl) ?_
  refine lv_bipush (v := 9) C.1 C.2.1 dX12_saysNumber_1 (by decide) ?_
  refine lv_icmp_le (tgt := 14) C.1 C.2.1 dX12_saysNumber_3 (by decide) (fun c_3 => ?_) (fun c_3 => ?_)
  · have hz : n ≤ 9 := (nI_leI (by omega) (by decide)).mp c_3
    refine lv_aload_n C.1 C.2.1 dX12_saysNumber_14 rfl (lv_at hl 0 rfl) ?_
    refine lv_bipush (v := 48) C.1 C.2.1 dX12_saysNumber_15 (by decide) ?_
    refine lv_iload_n C.1 C.2.1 dX12_saysNumber_17 rfl (lv_at hl 1 rfl) ?_
    refine lv_bipush (v := 10) C.1 C.2.1 dX12_saysNumber_18 (by decide) ?_
    refine lv_irem C.1 C.2.1 dX12_saysNumber_20 (by decide) ?_
    refine r_toe (show _ = nI (n % 10) from pk_rem (d := 10) (by omega) (by decide) (by decide)) ?_
    refine lv_iadd C.1 C.2.1 dX12_saysNumber_21 ?_
    refine r_toe (nI_add 48 (n % 10)) ?_
    refine lv_i2c (v := ((nI (48 + (n % 10))).toUInt32 % 65536).toInt32) C.1 C.2.1 dX12_saysNumber_22 rfl ?_
    refine r_toe (show _ = nI (48 + (n % 10)) from i2c_nI (by omega)) ?_
    refine r_vv C hw (k12_says hF (mo := mo) (U := U) (X := X) (k := k) hk1 (by (try simp only [List.length_append, List.length_singleton, List.length_cons, List.length_nil]); omega) (nI (48 + (n % 10)))) ml_X12_171 yf_X12_says 0 rfl rfl (As := [.int (nI (48 + (n % 10)))]) rfl rfl ⟨Nat.le_of_ble_eq_true rfl, Nat.le_of_ble_eq_true rfl⟩ ⟨Nat.le_of_ble_eq_true rfl, Nat.le_of_ble_eq_true rfl⟩ hl.1 (Nat.le_of_ble_eq_true rfl) dX12_saysNumber_23 (fun _ H locs hp_23 hw => ?_)
    replace hw : WH G s (moW G mo (syU U k ([(nI (48 + (n % 10)))])) ++ X) H locs := hw
    exact r_vret C hw rfl () (trivial) (by rw [show dgL 2 n = [nI (48 + n % 10)] from if_pos hz]) (Nat.le_of_ble_eq_true rfl) (Nat.le_of_ble_eq_true rfl) dX12_saysNumber_26
  · have hz : ¬ n ≤ 9 := fun q => c_3 ((nI_leI (by omega) (by decide)).mpr q)
    refine lv_aload_n C.1 C.2.1 dX12_saysNumber_6 rfl (lv_at hl 0 rfl) ?_
    refine lv_iload_n C.1 C.2.1 dX12_saysNumber_7 rfl (lv_at hl 1 rfl) ?_
    refine lv_bipush (v := 10) C.1 C.2.1 dX12_saysNumber_8 (by decide) ?_
    refine lv_idiv C.1 C.2.1 dX12_saysNumber_10 (by decide) ?_
    refine r_toe (show _ = nI (n / 10) from pk_div (d := 10) (by omega) (by decide) (by decide)) ?_
    have hln_11 := @dgL_len 1 (n / 10)
    refine r_vv C hw (k12_saysNumber_1 hF (mo := mo) (U := U) (X := X) (k := k) hk1 (n := (n / 10)) (by omega) (by (try simp only [List.length_append, List.length_singleton, List.length_cons, List.length_nil]); omega)) ml_X12_168 yf_X12_saysNumber 0 rfl rfl (As := [.int (nI (n / 10))]) rfl rfl ⟨Nat.le_of_ble_eq_true rfl, Nat.le_of_ble_eq_true rfl⟩ ⟨Nat.le_of_ble_eq_true rfl, Nat.le_of_ble_eq_true rfl⟩ hl.1 (Nat.le_of_ble_eq_true rfl) dX12_saysNumber_11 (fun _ H locs hp_11 hw => ?_)
    replace hw : WH G s (moW G mo (syU U k (dgL 1 (n / 10))) ++ X) H locs := hw
    refine lv_aload_n C.1 C.2.1 dX12_saysNumber_14 rfl (lv_at hl 0 rfl) ?_
    refine lv_bipush (v := 48) C.1 C.2.1 dX12_saysNumber_15 (by decide) ?_
    refine lv_iload_n C.1 C.2.1 dX12_saysNumber_17 rfl (lv_at hl 1 rfl) ?_
    refine lv_bipush (v := 10) C.1 C.2.1 dX12_saysNumber_18 (by decide) ?_
    refine lv_irem C.1 C.2.1 dX12_saysNumber_20 (by decide) ?_
    refine r_toe (show _ = nI (n % 10) from pk_rem (d := 10) (by omega) (by decide) (by decide)) ?_
    refine lv_iadd C.1 C.2.1 dX12_saysNumber_21 ?_
    refine r_toe (nI_add 48 (n % 10)) ?_
    refine lv_i2c (v := ((nI (48 + (n % 10))).toUInt32 % 65536).toInt32) C.1 C.2.1 dX12_saysNumber_22 rfl ?_
    refine r_toe (show _ = nI (48 + (n % 10)) from i2c_nI (by omega)) ?_
    refine r_vv C hw (k12_says hF (mo := mo) (U := (syU U k (dgL 1 (n / 10)))) (X := X) (k := (k + ((dgL 1 (n / 10))).length)) syU_3 (by (try simp only [List.length_append, List.length_singleton, List.length_cons, List.length_nil]); omega) (nI (48 + (n % 10)))) ml_X12_171 yf_X12_says 0 rfl rfl (As := [.int (nI (48 + (n % 10)))]) rfl rfl ⟨Nat.le_of_ble_eq_true rfl, Nat.le_of_ble_eq_true rfl⟩ ⟨Nat.le_of_ble_eq_true rfl, Nat.le_of_ble_eq_true rfl⟩ hl.1 (Nat.le_of_ble_eq_true rfl) dX12_saysNumber_23 (fun _ H locs hp_23 hw => ?_)
    rw [syU_app rfl] at hw
    replace hw : WH G s (moW G mo (syU U k ((dgL 1 (n / 10)) ++ [(nI (48 + (n % 10)))])) ++ X) H locs := hw
    exact r_vret C hw rfl () (trivial) (by rw [show dgL 2 n = dgL 1 (n / 10) ++ [nI (48 + n % 10)] from if_neg hz]) (Nat.le_of_ble_eq_true rfl) (Nat.le_of_ble_eq_true rfl) dX12_saysNumber_26

set_option maxHeartbeats 4000000 in
set_option maxRecDepth 100000 in
theorem k12_saysNumber_3 {l : Launch} {G : Gx} (hF : SF l G) {mo : Nat → Nat} {U : MV_} {X : va_W} {k : Nat} (hk1 : U.1 3 = nI k) {n : Nat} (hn : n < 10000) (hk : k + 4 ≤ 40) : MV l G yX12_saysNumber cX12_saysNumber 2 4 0 0 [.ref (mo 0), .int (nI n)] (moW G mo U ++ X) (fun _ => True) (fun _ : Unit => moW G mo (syU U k (dgL 3 n)) ++ X) := by
  refine mt_of hF (by decide) (Nat.le_of_ble_eq_true rfl) ?_
  intro p e s m below meth c C hin ls hl H locs hw
  have hl : lv_has ls 2 [(0, .ref (mo 0)), (1, .int (nI n))] := hl
  refine lv_iload_n C.1 C.2.1 dX12_saysNumber_0 rfl (lv_at hl 1 rfl) ?_
  refine lv_bipush (v := 9) C.1 C.2.1 dX12_saysNumber_1 (by decide) ?_
  refine lv_icmp_le (tgt := 14) C.1 C.2.1 dX12_saysNumber_3 (by decide) (fun c_3 => ?_) (fun c_3 => ?_)
  · have hz : n ≤ 9 := (nI_leI (by omega) (by decide)).mp c_3
    refine lv_aload_n C.1 C.2.1 dX12_saysNumber_14 rfl (lv_at hl 0 rfl) ?_
    refine lv_bipush (v := 48) C.1 C.2.1 dX12_saysNumber_15 (by decide) ?_
    refine lv_iload_n C.1 C.2.1 dX12_saysNumber_17 rfl (lv_at hl 1 rfl) ?_
    refine lv_bipush (v := 10) C.1 C.2.1 dX12_saysNumber_18 (by decide) ?_
    refine lv_irem C.1 C.2.1 dX12_saysNumber_20 (by decide) ?_
    refine r_toe (show _ = nI (n % 10) from pk_rem (d := 10) (by omega) (by decide) (by decide)) ?_
    refine lv_iadd C.1 C.2.1 dX12_saysNumber_21 ?_
    refine r_toe (nI_add 48 (n % 10)) ?_
    refine lv_i2c (v := ((nI (48 + (n % 10))).toUInt32 % 65536).toInt32) C.1 C.2.1 dX12_saysNumber_22 rfl ?_
    refine r_toe (show _ = nI (48 + (n % 10)) from i2c_nI (by omega)) ?_
    refine r_vv C hw (k12_says hF (mo := mo) (U := U) (X := X) (k := k) hk1 (by (try simp only [List.length_append, List.length_singleton, List.length_cons, List.length_nil]); omega) (nI (48 + (n % 10)))) ml_X12_171 yf_X12_says 0 rfl rfl (As := [.int (nI (48 + (n % 10)))]) rfl rfl ⟨Nat.le_of_ble_eq_true rfl, Nat.le_of_ble_eq_true rfl⟩ ⟨Nat.le_of_ble_eq_true rfl, Nat.le_of_ble_eq_true rfl⟩ hl.1 (Nat.le_of_ble_eq_true rfl) dX12_saysNumber_23 (fun _ H locs hp_23 hw => ?_)
    replace hw : WH G s (moW G mo (syU U k ([(nI (48 + (n % 10)))])) ++ X) H locs := hw
    exact r_vret C hw rfl () (trivial) (by rw [show dgL 3 n = [nI (48 + n % 10)] from if_pos hz]) (Nat.le_of_ble_eq_true rfl) (Nat.le_of_ble_eq_true rfl) dX12_saysNumber_26
  · have hz : ¬ n ≤ 9 := fun q => c_3 ((nI_leI (by omega) (by decide)).mpr q)
    refine lv_aload_n C.1 C.2.1 dX12_saysNumber_6 rfl (lv_at hl 0 rfl) ?_
    refine lv_iload_n C.1 C.2.1 dX12_saysNumber_7 rfl (lv_at hl 1 rfl) ?_
    refine lv_bipush (v := 10) C.1 C.2.1 dX12_saysNumber_8 (by decide) ?_
    refine lv_idiv C.1 C.2.1 dX12_saysNumber_10 (by decide) ?_
    refine r_toe (show _ = nI (n / 10) from pk_div (d := 10) (by omega) (by decide) (by decide)) ?_
    have hln_11 := @dgL_len 2 (n / 10)
    refine r_vv C hw (k12_saysNumber_2 hF (mo := mo) (U := U) (X := X) (k := k) hk1 (n := (n / 10)) (by omega) (by (try simp only [List.length_append, List.length_singleton, List.length_cons, List.length_nil]); omega)) ml_X12_168 yf_X12_saysNumber 0 rfl rfl (As := [.int (nI (n / 10))]) rfl rfl ⟨Nat.le_of_ble_eq_true rfl, Nat.le_of_ble_eq_true rfl⟩ ⟨Nat.le_of_ble_eq_true rfl, Nat.le_of_ble_eq_true rfl⟩ hl.1 (Nat.le_of_ble_eq_true rfl) dX12_saysNumber_11 (fun _ H locs hp_11 hw => ?_)
    replace hw : WH G s (moW G mo (syU U k (dgL 2 (n / 10))) ++ X) H locs := hw
    refine lv_aload_n C.1 C.2.1 dX12_saysNumber_14 rfl (lv_at hl 0 rfl) ?_
    refine lv_bipush (v := 48) C.1 C.2.1 dX12_saysNumber_15 (by decide) ?_
    refine lv_iload_n C.1 C.2.1 dX12_saysNumber_17 rfl (lv_at hl 1 rfl) ?_
    refine lv_bipush (v := 10) C.1 C.2.1 dX12_saysNumber_18 (by decide) ?_
    refine lv_irem C.1 C.2.1 dX12_saysNumber_20 (by decide) ?_
    refine r_toe (show _ = nI (n % 10) from pk_rem (d := 10) (by omega) (by decide) (by decide)) ?_
    refine lv_iadd C.1 C.2.1 dX12_saysNumber_21 ?_
    refine r_toe (nI_add 48 (n % 10)) ?_
    refine lv_i2c (v := ((nI (48 + (n % 10))).toUInt32 % 65536).toInt32) C.1 C.2.1 dX12_saysNumber_22 rfl ?_
    refine r_toe (show _ = nI (48 + (n % 10)) from i2c_nI (by omega)) ?_
    refine r_vv C hw (k12_says hF (mo := mo) (U := (syU U k (dgL 2 (n / 10)))) (X := X) (k := (k + ((dgL 2 (n / 10))).length)) syU_3 (by (try simp only [List.length_append, List.length_singleton, List.length_cons, List.length_nil]); omega) (nI (48 + (n % 10)))) ml_X12_171 yf_X12_says 0 rfl rfl (As := [.int (nI (48 + (n % 10)))]) rfl rfl ⟨Nat.le_of_ble_eq_true rfl, Nat.le_of_ble_eq_true rfl⟩ ⟨Nat.le_of_ble_eq_true rfl, Nat.le_of_ble_eq_true rfl⟩ hl.1 (Nat.le_of_ble_eq_true rfl) dX12_saysNumber_23 (fun _ H locs hp_23 hw => ?_)
    rw [syU_app rfl] at hw
    replace hw : WH G s (moW G mo (syU U k ((dgL 2 (n / 10)) ++ [(nI (48 + (n % 10)))])) ++ X) H locs := hw
    exact r_vret C hw rfl () (trivial) (by rw [show dgL 3 n = dgL 2 (n / 10) ++ [nI (48 + n % 10)] from if_neg hz]) (Nat.le_of_ble_eq_true rfl) (Nat.le_of_ble_eq_true rfl) dX12_saysNumber_26

set_option maxHeartbeats 4000000 in
set_option maxRecDepth 100000 in
theorem k12_saysNumber_4 {l : Launch} {G : Gx} (hF : SF l G) {mo : Nat → Nat} {U : MV_} {X : va_W} {k : Nat} (hk1 : U.1 3 = nI k) {n : Nat} (hn : n < 100000) (hk : k + 5 ≤ 40) : MV l G yX12_saysNumber cX12_saysNumber 2 5 0 0 [.ref (mo 0), .int (nI n)] (moW G mo U ++ X) (fun _ => True) (fun _ : Unit => moW G mo (syU U k (dgL 4 n)) ++ X) := by
  refine mt_of hF (by decide) (Nat.le_of_ble_eq_true rfl) ?_
  intro p e s m below meth c C hin ls hl H locs hw
  have hl : lv_has ls 2 [(0, .ref (mo 0)), (1, .int (nI n))] := hl
  refine lv_iload_n C.1 C.2.1 dX12_saysNumber_0 rfl (lv_at hl 1 rfl) ?_
  refine lv_bipush (v := 9) C.1 C.2.1 dX12_saysNumber_1 (by decide) ?_
  refine lv_icmp_le (tgt := 14) C.1 C.2.1 dX12_saysNumber_3 (by decide) (fun c_3 => ?_) (fun c_3 => ?_)
  · have hz : n ≤ 9 := (nI_leI (by omega) (by decide)).mp c_3
    refine lv_aload_n C.1 C.2.1 dX12_saysNumber_14 rfl (lv_at hl 0 rfl) ?_
    refine lv_bipush (v := 48) C.1 C.2.1 dX12_saysNumber_15 (by decide) ?_
    refine lv_iload_n C.1 C.2.1 dX12_saysNumber_17 rfl (lv_at hl 1 rfl) ?_
    refine lv_bipush (v := 10) C.1 C.2.1 dX12_saysNumber_18 (by decide) ?_
    refine lv_irem C.1 C.2.1 dX12_saysNumber_20 (by decide) ?_
    refine r_toe (show _ = nI (n % 10) from pk_rem (d := 10) (by omega) (by decide) (by decide)) ?_
    refine lv_iadd C.1 C.2.1 dX12_saysNumber_21 ?_
    refine r_toe (nI_add 48 (n % 10)) ?_
    refine lv_i2c (v := ((nI (48 + (n % 10))).toUInt32 % 65536).toInt32) C.1 C.2.1 dX12_saysNumber_22 rfl ?_
    refine r_toe (show _ = nI (48 + (n % 10)) from i2c_nI (by omega)) ?_
    refine r_vv C hw (k12_says hF (mo := mo) (U := U) (X := X) (k := k) hk1 (by (try simp only [List.length_append, List.length_singleton, List.length_cons, List.length_nil]); omega) (nI (48 + (n % 10)))) ml_X12_171 yf_X12_says 0 rfl rfl (As := [.int (nI (48 + (n % 10)))]) rfl rfl ⟨Nat.le_of_ble_eq_true rfl, Nat.le_of_ble_eq_true rfl⟩ ⟨Nat.le_of_ble_eq_true rfl, Nat.le_of_ble_eq_true rfl⟩ hl.1 (Nat.le_of_ble_eq_true rfl) dX12_saysNumber_23 (fun _ H locs hp_23 hw => ?_)
    replace hw : WH G s (moW G mo (syU U k ([(nI (48 + (n % 10)))])) ++ X) H locs := hw
    exact r_vret C hw rfl () (trivial) (by rw [show dgL 4 n = [nI (48 + n % 10)] from if_pos hz]) (Nat.le_of_ble_eq_true rfl) (Nat.le_of_ble_eq_true rfl) dX12_saysNumber_26
  · have hz : ¬ n ≤ 9 := fun q => c_3 ((nI_leI (by omega) (by decide)).mpr q)
    refine lv_aload_n C.1 C.2.1 dX12_saysNumber_6 rfl (lv_at hl 0 rfl) ?_
    refine lv_iload_n C.1 C.2.1 dX12_saysNumber_7 rfl (lv_at hl 1 rfl) ?_
    refine lv_bipush (v := 10) C.1 C.2.1 dX12_saysNumber_8 (by decide) ?_
    refine lv_idiv C.1 C.2.1 dX12_saysNumber_10 (by decide) ?_
    refine r_toe (show _ = nI (n / 10) from pk_div (d := 10) (by omega) (by decide) (by decide)) ?_
    have hln_11 := @dgL_len 3 (n / 10)
    refine r_vv C hw (k12_saysNumber_3 hF (mo := mo) (U := U) (X := X) (k := k) hk1 (n := (n / 10)) (by omega) (by (try simp only [List.length_append, List.length_singleton, List.length_cons, List.length_nil]); omega)) ml_X12_168 yf_X12_saysNumber 0 rfl rfl (As := [.int (nI (n / 10))]) rfl rfl ⟨Nat.le_of_ble_eq_true rfl, Nat.le_of_ble_eq_true rfl⟩ ⟨Nat.le_of_ble_eq_true rfl, Nat.le_of_ble_eq_true rfl⟩ hl.1 (Nat.le_of_ble_eq_true rfl) dX12_saysNumber_11 (fun _ H locs hp_11 hw => ?_)
    replace hw : WH G s (moW G mo (syU U k (dgL 3 (n / 10))) ++ X) H locs := hw
    refine lv_aload_n C.1 C.2.1 dX12_saysNumber_14 rfl (lv_at hl 0 rfl) ?_
    refine lv_bipush (v := 48) C.1 C.2.1 dX12_saysNumber_15 (by decide) ?_
    refine lv_iload_n C.1 C.2.1 dX12_saysNumber_17 rfl (lv_at hl 1 rfl) ?_
    refine lv_bipush (v := 10) C.1 C.2.1 dX12_saysNumber_18 (by decide) ?_
    refine lv_irem C.1 C.2.1 dX12_saysNumber_20 (by decide) ?_
    refine r_toe (show _ = nI (n % 10) from pk_rem (d := 10) (by omega) (by decide) (by decide)) ?_
    refine lv_iadd C.1 C.2.1 dX12_saysNumber_21 ?_
    refine r_toe (nI_add 48 (n % 10)) ?_
    refine lv_i2c (v := ((nI (48 + (n % 10))).toUInt32 % 65536).toInt32) C.1 C.2.1 dX12_saysNumber_22 rfl ?_
    refine r_toe (show _ = nI (48 + (n % 10)) from i2c_nI (by omega)) ?_
    refine r_vv C hw (k12_says hF (mo := mo) (U := (syU U k (dgL 3 (n / 10)))) (X := X) (k := (k + ((dgL 3 (n / 10))).length)) syU_3 (by (try simp only [List.length_append, List.length_singleton, List.length_cons, List.length_nil]); omega) (nI (48 + (n % 10)))) ml_X12_171 yf_X12_says 0 rfl rfl (As := [.int (nI (48 + (n % 10)))]) rfl rfl ⟨Nat.le_of_ble_eq_true rfl, Nat.le_of_ble_eq_true rfl⟩ ⟨Nat.le_of_ble_eq_true rfl, Nat.le_of_ble_eq_true rfl⟩ hl.1 (Nat.le_of_ble_eq_true rfl) dX12_saysNumber_23 (fun _ H locs hp_23 hw => ?_)
    rw [syU_app rfl] at hw
    replace hw : WH G s (moW G mo (syU U k ((dgL 3 (n / 10)) ++ [(nI (48 + (n % 10)))])) ++ X) H locs := hw
    exact r_vret C hw rfl () (trivial) (by rw [show dgL 4 n = dgL 3 (n / 10) ++ [nI (48 + n % 10)] from if_neg hz]) (Nat.le_of_ble_eq_true rfl) (Nat.le_of_ble_eq_true rfl) dX12_saysNumber_26

set_option maxHeartbeats 4000000 in
set_option maxRecDepth 100000 in
theorem k12_saysAmount {l : Launch} {G : Gx} (hF : SF l G) {mo : Nat → Nat} {U : MV_} {X : va_W} {k : Nat} (hk1 : U.1 3 = nI k) {q n : Nat} (hq : q < 100000) (hn : n < 100000) (hk : k + 11 ≤ 40) : MV l G yX12_saysAmount cX12_saysAmount 3 6 0 0 [.ref (mo 0), .int (nI q), .int (nI n)] (moW G mo U ++ X) (fun _ => True) (fun _ : Unit => moW G mo (syU U k (amL q n)) ++ X) := by
  refine mt_of hF (by decide) (Nat.le_of_ble_eq_true rfl) ?_
  intro p e s m below meth c C hin ls hl H locs hw
  have hl : lv_has ls 3 [(0, .ref (mo 0)), (1, .int (nI q)), (2, .int (nI n))] := hl
  refine lv_aload_n C.1 C.2.1 dX12_saysAmount_0 rfl (lv_at hl 0 rfl) ?_
  refine lv_iload_n C.1 C.2.1 dX12_saysAmount_1 rfl (lv_at hl 1 rfl) ?_
  have hln_2 := @dgL_len 4 q
  refine r_vv C hw (k12_saysNumber_4 hF (mo := mo) (U := U) (X := X) (k := k) hk1 (n := q) (by omega) (by (try simp only [List.length_append, List.length_singleton, List.length_cons, List.length_nil]); omega)) ml_X12_168 yf_X12_saysNumber 0 rfl rfl (As := [.int (nI q)]) rfl rfl ⟨Nat.le_of_ble_eq_true rfl, Nat.le_of_ble_eq_true rfl⟩ ⟨Nat.le_of_ble_eq_true rfl, Nat.le_of_ble_eq_true rfl⟩ hl.1 (Nat.le_of_ble_eq_true rfl) dX12_saysAmount_2 (fun _ H locs hp_2 hw => ?_)
  replace hw : WH G s (moW G mo (syU U k (dgL 4 q)) ++ X) H locs := hw
  refine lv_aload_n C.1 C.2.1 dX12_saysAmount_5 rfl (lv_at hl 0 rfl) ?_
  refine lv_bipush (v := 120) C.1 C.2.1 dX12_saysAmount_6 (by decide) ?_
  refine r_vv C hw (k12_says hF (mo := mo) (U := (syU U k (dgL 4 q))) (X := X) (k := (k + ((dgL 4 q)).length)) syU_3 (by (try simp only [List.length_append, List.length_singleton, List.length_cons, List.length_nil]); omega) 120) ml_X12_171 yf_X12_says 0 rfl rfl (As := [.int 120]) rfl rfl ⟨Nat.le_of_ble_eq_true rfl, Nat.le_of_ble_eq_true rfl⟩ ⟨Nat.le_of_ble_eq_true rfl, Nat.le_of_ble_eq_true rfl⟩ hl.1 (Nat.le_of_ble_eq_true rfl) dX12_saysAmount_8 (fun _ H locs hp_8 hw => ?_)
  rw [syU_app rfl] at hw
  replace hw : WH G s (moW G mo (syU U k ((dgL 4 q) ++ [120])) ++ X) H locs := hw
  refine lv_aload_n C.1 C.2.1 dX12_saysAmount_11 rfl (lv_at hl 0 rfl) ?_
  refine lv_iload_n C.1 C.2.1 dX12_saysAmount_12 rfl (lv_at hl 2 rfl) ?_
  have hln_13 := @dgL_len 4 n
  refine r_vv C hw (k12_saysNumber_4 hF (mo := mo) (U := (syU U k ((dgL 4 q) ++ [120]))) (X := X) (k := (k + (((dgL 4 q) ++ [120])).length)) syU_3 (n := n) (by omega) (by (try simp only [List.length_append, List.length_singleton, List.length_cons, List.length_nil]); omega)) ml_X12_168 yf_X12_saysNumber 0 rfl rfl (As := [.int (nI n)]) rfl rfl ⟨Nat.le_of_ble_eq_true rfl, Nat.le_of_ble_eq_true rfl⟩ ⟨Nat.le_of_ble_eq_true rfl, Nat.le_of_ble_eq_true rfl⟩ hl.1 (Nat.le_of_ble_eq_true rfl) dX12_saysAmount_13 (fun _ H locs hp_13 hw => ?_)
  rw [syU_app rfl] at hw
  replace hw : WH G s (moW G mo (syU U k (((dgL 4 q) ++ [120]) ++ (dgL 4 n))) ++ X) H locs := hw
  exact r_vret C hw rfl () (trivial) rfl (Nat.le_of_ble_eq_true rfl) (Nat.le_of_ble_eq_true rfl) dX12_saysAmount_16

