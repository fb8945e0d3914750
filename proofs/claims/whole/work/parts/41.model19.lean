/-! The model: a command is done -/
def doC (U : MV_) (k : Nat) : MV_ := if U.2 6 (4 * k) = 116 then (asM U (U.2 6 (4 * k + 1)) (U.2 6 (4 * k + 2))).1 else if U.2 6 (4 * k) = 98 then (opM U (U.2 6 (4 * k + 1)) true (U.2 6 (4 * k + 2)) (U.2 6 (4 * k + 3)) 0).1 else if U.2 6 (4 * k) = 115 then (opM U (U.2 6 (4 * k + 1)) false (U.2 6 (4 * k + 2)) (U.2 6 (4 * k + 3)) 0).1 else if U.2 6 (4 * k) = 99 then (caM U (U.2 6 (4 * k + 1))).1 else if U.2 6 (4 * k) = 112 then (psM U (U.2 6 (4 * k + 1))).1 else if U.2 6 (4 * k) = 108 then (clM U).1 else (opnM U).1
theorem doC_116 {U : MV_} {k : Nat} (h : U.2 6 (4 * k) = 116) : doC U k = (asM U (U.2 6 (4 * k + 1)) (U.2 6 (4 * k + 2))).1 := by
  unfold doC
  rw [h]
  rfl
theorem doC_98 {U : MV_} {k : Nat} (h : U.2 6 (4 * k) = 98) : doC U k = (opM U (U.2 6 (4 * k + 1)) true (U.2 6 (4 * k + 2)) (U.2 6 (4 * k + 3)) 0).1 := by
  unfold doC
  rw [h]
  rfl
theorem doC_115 {U : MV_} {k : Nat} (h : U.2 6 (4 * k) = 115) : doC U k = (opM U (U.2 6 (4 * k + 1)) false (U.2 6 (4 * k + 2)) (U.2 6 (4 * k + 3)) 0).1 := by
  unfold doC
  rw [h]
  rfl
theorem doC_99 {U : MV_} {k : Nat} (h : U.2 6 (4 * k) = 99) : doC U k = (caM U (U.2 6 (4 * k + 1))).1 := by
  unfold doC
  rw [h]
  rfl
theorem doC_112 {U : MV_} {k : Nat} (h : U.2 6 (4 * k) = 112) : doC U k = (psM U (U.2 6 (4 * k + 1))).1 := by
  unfold doC
  rw [h]
  rfl
theorem doC_108 {U : MV_} {k : Nat} (h : U.2 6 (4 * k) = 108) : doC U k = (clM U).1 := by
  unfold doC
  rw [h]
  rfl
theorem doC_d {U : MV_} {k : Nat} (h98 : ¬ U.2 6 (4 * k) = 98) (h99 : ¬ U.2 6 (4 * k) = 99) (h108 : ¬ U.2 6 (4 * k) = 108) (h112 : ¬ U.2 6 (4 * k) = 112) (h115 : ¬ U.2 6 (4 * k) = 115) (h116 : ¬ U.2 6 (4 * k) = 116) : doC U k = (opnM U).1 := by
  unfold doC
  rw [if_neg h116, if_neg h98, if_neg h115, if_neg h99, if_neg h112, if_neg h108]
theorem tb_do (x : Int32) (h98 : ¬ x = 98) (h99 : ¬ x = 99) (h108 : ¬ x = 108) (h112 : ¬ x = 112) (h115 : ¬ x = 115) (h116 : ¬ x = 116) : (x.toInt < 98 ∨ 116 < x.toInt) ∨ (¬ x.toInt < 98 ∧ ¬ 116 < x.toInt ∧ (#[101, 141, 170, 170, 170, 170, 170, 170, 170, 170, 161, 170, 170, 170, 151, 170, 170, 101, 90] : Array Int)[(x.toInt - 98).toNat]? = some 170) := by
  by_cases h1 : x.toInt < 98
  · exact Or.inl (Or.inl h1)
  · by_cases h2 : 116 < x.toInt
    · exact Or.inl (Or.inr h2)
    · refine Or.inr ⟨h1, h2, ?_⟩
      have key : ∀ i : Nat, i < 19 → (i = 0 ∨ i = 1 ∨ i = 10 ∨ i = 14 ∨ i = 17 ∨ i = 18 ∨ (#[101, 141, 170, 170, 170, 170, 170, 170, 170, 170, 161, 170, 170, 170, 151, 170, 170, 101, 90] : Array Int)[i]? = some 170) := by decide
      rcases key (x.toInt - 98).toNat (by omega) with q | q | q | q | q | q | q
      · exact absurd (Int32.toInt_inj.mp (by rw [show (98 : Int32).toInt = 98 from by decide]; omega)) h98
      · exact absurd (Int32.toInt_inj.mp (by rw [show (99 : Int32).toInt = 99 from by decide]; omega)) h99
      · exact absurd (Int32.toInt_inj.mp (by rw [show (108 : Int32).toInt = 108 from by decide]; omega)) h108
      · exact absurd (Int32.toInt_inj.mp (by rw [show (112 : Int32).toInt = 112 from by decide]; omega)) h112
      · exact absurd (Int32.toInt_inj.mp (by rw [show (115 : Int32).toInt = 115 from by decide]; omega)) h115
      · exact absurd (Int32.toInt_inj.mp (by rw [show (116 : Int32).toInt = 116 from by decide]; omega)) h116
      exact q
theorem asM_j {U : MV_} {x y : Int32} {j : Nat} (hj : ¬ j = 2) : (asM U x y).1.1 j = U.1 j := by
  unfold asM; split
  · exact mI_ne hj
  · split
    · exact mI_ne hj
    · rfl
theorem caM_j {U : MV_} {x : Int32} {j : Nat} (hj : ¬ j = 2) : (caM U x).1.1 j = U.1 j := by
  unfold caM; split
  · exact mI_ne hj
  · rfl
theorem opnM_j {U : MV_} {j : Nat} (hj : ¬ j = 2) : (opnM U).1.1 j = U.1 j := by
  unfold opnM; split
  · exact mI_ne hj
  · rfl
theorem psM_j {U : MV_} {x : Int32} {j : Nat} (hj : ¬ j = 2) : (psM U x).1.1 j = U.1 j := by
  unfold psM; split
  · exact mI_ne hj
  · rfl
theorem opM_j {U : MV_} {x : Int32} {b : Bool} {pr q mi : Int32} {j : Nat} (hj : ¬ j = 2) : (opM U x b pr q mi).1.1 j = U.1 j := by
  unfold opM; split
  · unfold opE; split
    · rfl
    · split <;> rfl
  · exact mI_ne hj
theorem clM_j {U : MV_} {j : Nat} (hj : ¬ j = 2) : (clM U).1.1 j = U.1 j := by
  unfold clM; split
  · exact mI_ne hj
  · split <;> rfl
theorem doC_j {U : MV_} {k j : Nat} (hj : ¬ j = 2) : (doC U k).1 j = U.1 j := by
  unfold doC
  split
  · exact asM_j hj
  · split
    · exact opM_j hj
    · split
      · exact opM_j hj
      · split
        · exact caM_j hj
        · split
          · exact psM_j hj
          · split
            · exact clM_j hj
            · exact opnM_j hj

set_option maxHeartbeats 4000000 in
set_option maxRecDepth 100000 in
theorem k12_does {l : Launch} {G : Gx} (hF : SF l G) {mo : Nat → Nat} {U : MV_} {X : va_W} (hok : okF (U.2 0)) {k : Nat} (hk : k < 60) (hg : U.2 6 (4 * k) = 108 → ¬ U.2 0 4 = 0 → ∃ g, clG (U.2 0) = some g) : MV l G yX12_does cX12_does 5 5 0 0 [.ref (mo 0), .int (nI k)] (moW G mo U ++ X) (fun _ => True) (fun _ : Unit => moW G mo (doC U k) ++ X) := by
  refine mt_of hF (by decide) (Nat.le_of_ble_eq_true rfl) ?_
  intro p e s m below meth c C hin ls hl H locs hw
  have hl : lv_has ls 5 [(0, .ref (mo 0)), (1, .int (nI k))] := hl
  refine lv_aload_n C.1 C.2.1 dX12_does_0 rfl (lv_at hl 0 rfl) ?_
  refine r_get C hw 0 rfl rfl in_X12 15 (by decide) fl_X12_36 rfl (v := .ref (mo 7)) rfl dX12_does_1 ?_
  refine lv_iconst (v := 4) C.1 C.2.1 dX12_does_4 (by decide) ?_
  refine lv_iload_n C.1 C.2.1 dX12_does_5 rfl (lv_at hl 1 rfl) ?_
  refine lv_imul C.1 C.2.1 dX12_does_6 ?_
  refine r_toe (pk_mul 4 k) ?_
  refine lv_iconst (v := 1) C.1 C.2.1 dX12_does_7 (by decide) ?_
  refine lv_iadd C.1 C.2.1 dX12_does_8 ?_
  refine r_toe (nI_add (4 * k) 1) ?_
  refine r_iald C hw 7 rfl (vp_in_nI (n := ((4 * k) + 1)) (by omega) (by decide)) dX12_does_9 ?_
  refine r_toe (show _ = (U.2 6) ((4 * k) + 1) from congrArg (U.2 6) (nI_clamp (n := ((4 * k) + 1)) (by omega))) ?_
  refine lv_istore_n (lv' := [(2, .int ((U.2 6) ((4 * k) + 1))), (0, .ref (mo 0)), (1, .int (nI k))]) C.1 C.2.1 dX12_does_10 rfl hl (by decide) rfl (fun ls hl => ?_)
  refine lv_aload_n C.1 C.2.1 dX12_does_11 rfl (lv_at hl 1 rfl) ?_
  refine r_get C hw 0 rfl rfl in_X12 15 (by decide) fl_X12_36 rfl (v := .ref (mo 7)) rfl dX12_does_12 ?_
  refine lv_iconst (v := 4) C.1 C.2.1 dX12_does_15 (by decide) ?_
  refine lv_iload_n C.1 C.2.1 dX12_does_16 rfl (lv_at hl 2 rfl) ?_
  refine lv_imul C.1 C.2.1 dX12_does_17 ?_
  refine r_toe (pk_mul 4 k) ?_
  refine lv_iconst (v := 2) C.1 C.2.1 dX12_does_18 (by decide) ?_
  refine lv_iadd C.1 C.2.1 dX12_does_19 ?_
  refine r_toe (nI_add (4 * k) 2) ?_
  refine r_iald C hw 7 rfl (vp_in_nI (n := ((4 * k) + 2)) (by omega) (by decide)) dX12_does_20 ?_
  refine r_toe (show _ = (U.2 6) ((4 * k) + 2) from congrArg (U.2 6) (nI_clamp (n := ((4 * k) + 2)) (by omega))) ?_
  refine lv_istore_n (lv' := [(3, .int ((U.2 6) ((4 * k) + 2))), (2, .int ((U.2 6) ((4 * k) + 1))), (0, .ref (mo 0)), (1, .int (nI k))]) C.1 C.2.1 dX12_does_21 rfl hl (by decide) rfl (fun ls hl => ?_)
  refine lv_aload_n C.1 C.2.1 dX12_does_22 rfl (lv_at hl 2 rfl) ?_
  refine r_get C hw 0 rfl rfl in_X12 15 (by decide) fl_X12_36 rfl (v := .ref (mo 7)) rfl dX12_does_23 ?_
  refine lv_iconst (v := 4) C.1 C.2.1 dX12_does_26 (by decide) ?_
  refine lv_iload_n C.1 C.2.1 dX12_does_27 rfl (lv_at hl 3 rfl) ?_
  refine lv_imul C.1 C.2.1 dX12_does_28 ?_
  refine r_toe (pk_mul 4 k) ?_
  refine r_iald C hw 7 rfl (vp_in_nI (n := (4 * k)) (by omega) (by decide)) dX12_does_29 ?_
  refine r_toe (show _ = (U.2 6) (4 * k) from congrArg (U.2 6) (nI_clamp (n := (4 * k)) (by omega))) ?_
  by_cases hk30_98 : ((U.2 6) (4 * k)) = 98
  · rw [hk30_98]
    refine lv_tableIn (tgt := 131) C.1 C.2.1 dX12_does_30 (by decide) (by decide) (off := 101) (by decide) (by decide) ?_
    refine lv_aload_n C.1 C.2.1 dX12_does_131 rfl (lv_at hl 2 rfl) ?_
    refine lv_iload_n C.1 C.2.1 dX12_does_132 rfl (lv_at hl 1 rfl) ?_
    refine lv_aload_n C.1 C.2.1 dX12_does_133 rfl (lv_at hl 2 rfl) ?_
    refine r_get C hw 0 rfl rfl in_X12 15 (by decide) fl_X12_36 rfl (v := .ref (mo 7)) rfl dX12_does_134 ?_
    refine lv_iconst (v := 4) C.1 C.2.1 dX12_does_137 (by decide) ?_
    refine lv_iload_n C.1 C.2.1 dX12_does_138 rfl (lv_at hl 3 rfl) ?_
    refine lv_imul C.1 C.2.1 dX12_does_139 ?_
    refine r_toe (pk_mul 4 k) ?_
    refine r_iald C hw 7 rfl (vp_in_nI (n := (4 * k)) (by omega) (by decide)) dX12_does_140 ?_
    refine r_toe (show _ = (U.2 6) (4 * k) from congrArg (U.2 6) (nI_clamp (n := (4 * k)) (by omega))) ?_
    refine lv_bipush (v := 98) C.1 C.2.1 dX12_does_141 (by decide) ?_
    refine lv_icmp_ne (tgt := 150) C.1 C.2.1 dX12_does_143 (by decide) (fun c_143 => absurd (hk30_98) c_143) (fun c_143 => ?_)
    refine lv_iconst (v := 1) C.1 C.2.1 dX12_does_146 (by decide) ?_
    refine lv_goto (tgt := 151) C.1 C.2.1 dX12_does_147 (by decide) ?_
    refine lv_iload_n C.1 C.2.1 dX12_does_151 rfl (lv_at hl 0 rfl) ?_
    refine lv_aload_n C.1 C.2.1 dX12_does_152 rfl (lv_at hl 2 rfl) ?_
    refine r_get C hw 0 rfl rfl in_X12 15 (by decide) fl_X12_36 rfl (v := .ref (mo 7)) rfl dX12_does_153 ?_
    refine lv_iconst (v := 4) C.1 C.2.1 dX12_does_156 (by decide) ?_
    refine lv_iload_n C.1 C.2.1 dX12_does_157 rfl (lv_at hl 3 rfl) ?_
    refine lv_imul C.1 C.2.1 dX12_does_158 ?_
    refine r_toe (pk_mul 4 k) ?_
    refine lv_iconst (v := 3) C.1 C.2.1 dX12_does_159 (by decide) ?_
    refine lv_iadd C.1 C.2.1 dX12_does_160 ?_
    refine r_toe (nI_add (4 * k) 3) ?_
    refine r_iald C hw 7 rfl (vp_in_nI (n := ((4 * k) + 3)) (by omega) (by decide)) dX12_does_161 ?_
    refine r_toe (show _ = (U.2 6) ((4 * k) + 3) from congrArg (U.2 6) (nI_clamp (n := ((4 * k) + 3)) (by omega))) ?_
    refine lv_iconst (v := 0) C.1 C.2.1 dX12_does_162 (by decide) ?_
    refine r_vi C hw (k12_doPlace hF (mo := mo) (U := U) (X := X) hok ((U.2 6) ((4 * k) + 1)) true ((U.2 6) ((4 * k) + 2)) ((U.2 6) ((4 * k) + 3)) 0) ml_X12_110 yf_X12_doPlace 0 rfl rfl (As := [.int ((U.2 6) ((4 * k) + 1)), .int 1, .int ((U.2 6) ((4 * k) + 2)), .int ((U.2 6) ((4 * k) + 3)), .int 0]) rfl rfl ⟨Nat.le_of_ble_eq_true rfl, Nat.le_of_ble_eq_true rfl⟩ ⟨Nat.le_of_ble_eq_true rfl, Nat.le_of_ble_eq_true rfl⟩ hl.1 (Nat.le_of_ble_eq_true rfl) dX12_does_163 (fun r_163 _ H locs hp_163 hw => ?_)
    obtain rfl : r_163 = (opM U ((U.2 6) ((4 * k) + 1)) true ((U.2 6) ((4 * k) + 2)) ((U.2 6) ((4 * k) + 3)) 0).2 := hp_163
    replace hw : WH G s (moW G mo (opM U ((U.2 6) ((4 * k) + 1)) true ((U.2 6) ((4 * k) + 2)) ((U.2 6) ((4 * k) + 3)) 0).1 ++ X) H locs := hw
    refine lv_istore (lv' := [(4, .int (opM U ((U.2 6) ((4 * k) + 1)) true ((U.2 6) ((4 * k) + 2)) ((U.2 6) ((4 * k) + 3)) 0).2), (3, .int ((U.2 6) ((4 * k) + 2))), (2, .int ((U.2 6) ((4 * k) + 1))), (0, .ref (mo 0)), (1, .int (nI k))]) C.1 C.2.1 dX12_does_166 hl (by decide) rfl (fun ls hl => ?_)
    refine lv_goto (tgt := 206) C.1 C.2.1 dX12_does_168 (by decide) ?_
    exact r_vret C hw rfl () (trivial) (by rw [doC_98 hk30_98]) (Nat.le_of_ble_eq_true rfl) (Nat.le_of_ble_eq_true rfl) dX12_does_206
  by_cases hk30_99 : ((U.2 6) (4 * k)) = 99
  · rw [hk30_99]
    refine lv_tableIn (tgt := 171) C.1 C.2.1 dX12_does_30 (by decide) (by decide) (off := 141) (by decide) (by decide) ?_
    refine lv_aload_n C.1 C.2.1 dX12_does_171 rfl (lv_at hl 2 rfl) ?_
    refine lv_iload_n C.1 C.2.1 dX12_does_172 rfl (lv_at hl 1 rfl) ?_
    refine r_vi C hw (k12_doCancel hF (mo := mo) (U := U) (X := X) hok ((U.2 6) ((4 * k) + 1))) ml_X12_120 yf_X12_doCancel 0 rfl rfl (As := [.int ((U.2 6) ((4 * k) + 1))]) rfl rfl ⟨Nat.le_of_ble_eq_true rfl, Nat.le_of_ble_eq_true rfl⟩ ⟨Nat.le_of_ble_eq_true rfl, Nat.le_of_ble_eq_true rfl⟩ hl.1 (Nat.le_of_ble_eq_true rfl) dX12_does_173 (fun r_173 _ H locs hp_173 hw => ?_)
    obtain rfl : r_173 = (caM U ((U.2 6) ((4 * k) + 1))).2 := hp_173
    replace hw : WH G s (moW G mo (caM U ((U.2 6) ((4 * k) + 1))).1 ++ X) H locs := hw
    refine lv_istore (lv' := [(4, .int (caM U ((U.2 6) ((4 * k) + 1))).2), (3, .int ((U.2 6) ((4 * k) + 2))), (2, .int ((U.2 6) ((4 * k) + 1))), (0, .ref (mo 0)), (1, .int (nI k))]) C.1 C.2.1 dX12_does_176 hl (by decide) rfl (fun ls hl => ?_)
    refine lv_goto (tgt := 206) C.1 C.2.1 dX12_does_178 (by decide) ?_
    exact r_vret C hw rfl () (trivial) (by rw [doC_99 hk30_99]) (Nat.le_of_ble_eq_true rfl) (Nat.le_of_ble_eq_true rfl) dX12_does_206
  by_cases hk30_108 : ((U.2 6) (4 * k)) = 108
  · rw [hk30_108]
    refine lv_tableIn (tgt := 191) C.1 C.2.1 dX12_does_30 (by decide) (by decide) (off := 161) (by decide) (by decide) ?_
    refine lv_aload_n C.1 C.2.1 dX12_does_191 rfl (lv_at hl 2 rfl) ?_
    refine r_vi C hw (k12_doClose hF (mo := mo) (U := U) (X := X) hok (hg hk30_108) ) ml_X12_139 yf_X12_doClose 0 rfl rfl (As := []) rfl rfl ⟨Nat.le_of_ble_eq_true rfl, Nat.le_of_ble_eq_true rfl⟩ ⟨Nat.le_of_ble_eq_true rfl, Nat.le_of_ble_eq_true rfl⟩ hl.1 (Nat.le_of_ble_eq_true rfl) dX12_does_192 (fun r_192 _ H locs hp_192 hw => ?_)
    obtain rfl : r_192 = (clM U).2 := hp_192
    replace hw : WH G s (moW G mo (clM U).1 ++ X) H locs := hw
    refine lv_istore (lv' := [(4, .int (clM U).2), (3, .int ((U.2 6) ((4 * k) + 2))), (2, .int ((U.2 6) ((4 * k) + 1))), (0, .ref (mo 0)), (1, .int (nI k))]) C.1 C.2.1 dX12_does_195 hl (by decide) rfl (fun ls hl => ?_)
    refine lv_goto (tgt := 206) C.1 C.2.1 dX12_does_197 (by decide) ?_
    exact r_vret C hw rfl () (trivial) (by rw [doC_108 hk30_108]) (Nat.le_of_ble_eq_true rfl) (Nat.le_of_ble_eq_true rfl) dX12_does_206
  by_cases hk30_112 : ((U.2 6) (4 * k)) = 112
  · rw [hk30_112]
    refine lv_tableIn (tgt := 181) C.1 C.2.1 dX12_does_30 (by decide) (by decide) (off := 151) (by decide) (by decide) ?_
    refine lv_aload_n C.1 C.2.1 dX12_does_181 rfl (lv_at hl 2 rfl) ?_
    refine lv_iload_n C.1 C.2.1 dX12_does_182 rfl (lv_at hl 1 rfl) ?_
    refine r_vi C hw (k12_doPass hF (mo := mo) (U := U) (X := X) hok ((U.2 6) ((4 * k) + 1))) ml_X12_123 yf_X12_doPass 0 rfl rfl (As := [.int ((U.2 6) ((4 * k) + 1))]) rfl rfl ⟨Nat.le_of_ble_eq_true rfl, Nat.le_of_ble_eq_true rfl⟩ ⟨Nat.le_of_ble_eq_true rfl, Nat.le_of_ble_eq_true rfl⟩ hl.1 (Nat.le_of_ble_eq_true rfl) dX12_does_183 (fun r_183 _ H locs hp_183 hw => ?_)
    obtain rfl : r_183 = (psM U ((U.2 6) ((4 * k) + 1))).2 := hp_183
    replace hw : WH G s (moW G mo (psM U ((U.2 6) ((4 * k) + 1))).1 ++ X) H locs := hw
    refine lv_istore (lv' := [(4, .int (psM U ((U.2 6) ((4 * k) + 1))).2), (3, .int ((U.2 6) ((4 * k) + 2))), (2, .int ((U.2 6) ((4 * k) + 1))), (0, .ref (mo 0)), (1, .int (nI k))]) C.1 C.2.1 dX12_does_186 hl (by decide) rfl (fun ls hl => ?_)
    refine lv_goto (tgt := 206) C.1 C.2.1 dX12_does_188 (by decide) ?_
    exact r_vret C hw rfl () (trivial) (by rw [doC_112 hk30_112]) (Nat.le_of_ble_eq_true rfl) (Nat.le_of_ble_eq_true rfl) dX12_does_206
  by_cases hk30_115 : ((U.2 6) (4 * k)) = 115
  · rw [hk30_115]
    refine lv_tableIn (tgt := 131) C.1 C.2.1 dX12_does_30 (by decide) (by decide) (off := 101) (by decide) (by decide) ?_
    refine lv_aload_n C.1 C.2.1 dX12_does_131 rfl (lv_at hl 2 rfl) ?_
    refine lv_iload_n C.1 C.2.1 dX12_does_132 rfl (lv_at hl 1 rfl) ?_
    refine lv_aload_n C.1 C.2.1 dX12_does_133 rfl (lv_at hl 2 rfl) ?_
    refine r_get C hw 0 rfl rfl in_X12 15 (by decide) fl_X12_36 rfl (v := .ref (mo 7)) rfl dX12_does_134 ?_
    refine lv_iconst (v := 4) C.1 C.2.1 dX12_does_137 (by decide) ?_
    refine lv_iload_n C.1 C.2.1 dX12_does_138 rfl (lv_at hl 3 rfl) ?_
    refine lv_imul C.1 C.2.1 dX12_does_139 ?_
    refine r_toe (pk_mul 4 k) ?_
    refine r_iald C hw 7 rfl (vp_in_nI (n := (4 * k)) (by omega) (by decide)) dX12_does_140 ?_
    refine r_toe (show _ = (U.2 6) (4 * k) from congrArg (U.2 6) (nI_clamp (n := (4 * k)) (by omega))) ?_
    refine lv_bipush (v := 98) C.1 C.2.1 dX12_does_141 (by decide) ?_
    refine lv_icmp_ne (tgt := 150) C.1 C.2.1 dX12_does_143 (by decide) (fun c_143 => ?_) (fun c_143 => absurd c_143 (fun q => absurd (hk30_115.symm.trans q) (by decide)))
    refine lv_iconst (v := 0) C.1 C.2.1 dX12_does_150 (by decide) ?_
    refine lv_iload_n C.1 C.2.1 dX12_does_151 rfl (lv_at hl 0 rfl) ?_
    refine lv_aload_n C.1 C.2.1 dX12_does_152 rfl (lv_at hl 2 rfl) ?_
    refine r_get C hw 0 rfl rfl in_X12 15 (by decide) fl_X12_36 rfl (v := .ref (mo 7)) rfl dX12_does_153 ?_
    refine lv_iconst (v := 4) C.1 C.2.1 dX12_does_156 (by decide) ?_
    refine lv_iload_n C.1 C.2.1 dX12_does_157 rfl (lv_at hl 3 rfl) ?_
    refine lv_imul C.1 C.2.1 dX12_does_158 ?_
    refine r_toe (pk_mul 4 k) ?_
    refine lv_iconst (v := 3) C.1 C.2.1 dX12_does_159 (by decide) ?_
    refine lv_iadd C.1 C.2.1 dX12_does_160 ?_
    refine r_toe (nI_add (4 * k) 3) ?_
    refine r_iald C hw 7 rfl (vp_in_nI (n := ((4 * k) + 3)) (by omega) (by decide)) dX12_does_161 ?_
    refine r_toe (show _ = (U.2 6) ((4 * k) + 3) from congrArg (U.2 6) (nI_clamp (n := ((4 * k) + 3)) (by omega))) ?_
    refine lv_iconst (v := 0) C.1 C.2.1 dX12_does_162 (by decide) ?_
    refine r_vi C hw (k12_doPlace hF (mo := mo) (U := U) (X := X) hok ((U.2 6) ((4 * k) + 1)) false ((U.2 6) ((4 * k) + 2)) ((U.2 6) ((4 * k) + 3)) 0) ml_X12_110 yf_X12_doPlace 0 rfl rfl (As := [.int ((U.2 6) ((4 * k) + 1)), .int 0, .int ((U.2 6) ((4 * k) + 2)), .int ((U.2 6) ((4 * k) + 3)), .int 0]) rfl rfl ⟨Nat.le_of_ble_eq_true rfl, Nat.le_of_ble_eq_true rfl⟩ ⟨Nat.le_of_ble_eq_true rfl, Nat.le_of_ble_eq_true rfl⟩ hl.1 (Nat.le_of_ble_eq_true rfl) dX12_does_163 (fun r_163 _ H locs hp_163 hw => ?_)
    obtain rfl : r_163 = (opM U ((U.2 6) ((4 * k) + 1)) false ((U.2 6) ((4 * k) + 2)) ((U.2 6) ((4 * k) + 3)) 0).2 := hp_163
    replace hw : WH G s (moW G mo (opM U ((U.2 6) ((4 * k) + 1)) false ((U.2 6) ((4 * k) + 2)) ((U.2 6) ((4 * k) + 3)) 0).1 ++ X) H locs := hw
    refine lv_istore (lv' := [(4, .int (opM U ((U.2 6) ((4 * k) + 1)) false ((U.2 6) ((4 * k) + 2)) ((U.2 6) ((4 * k) + 3)) 0).2), (3, .int ((U.2 6) ((4 * k) + 2))), (2, .int ((U.2 6) ((4 * k) + 1))), (0, .ref (mo 0)), (1, .int (nI k))]) C.1 C.2.1 dX12_does_166 hl (by decide) rfl (fun ls hl => ?_)
    refine lv_goto (tgt := 206) C.1 C.2.1 dX12_does_168 (by decide) ?_
    exact r_vret C hw rfl () (trivial) (by rw [doC_115 hk30_115]) (Nat.le_of_ble_eq_true rfl) (Nat.le_of_ble_eq_true rfl) dX12_does_206
  by_cases hk30_116 : ((U.2 6) (4 * k)) = 116
  · rw [hk30_116]
    refine lv_tableIn (tgt := 120) C.1 C.2.1 dX12_does_30 (by decide) (by decide) (off := 90) (by decide) (by decide) ?_
    refine lv_aload_n C.1 C.2.1 dX12_does_120 rfl (lv_at hl 2 rfl) ?_
    refine lv_iload_n C.1 C.2.1 dX12_does_121 rfl (lv_at hl 1 rfl) ?_
    refine lv_iload_n C.1 C.2.1 dX12_does_122 rfl (lv_at hl 0 rfl) ?_
    refine r_vi C hw (k12_doAddStall hF (mo := mo) (U := U) (X := X) hok ((U.2 6) ((4 * k) + 1)) ((U.2 6) ((4 * k) + 2))) ml_X12_104 yf_X12_doAddStall 0 rfl rfl (As := [.int ((U.2 6) ((4 * k) + 1)), .int ((U.2 6) ((4 * k) + 2))]) rfl rfl ⟨Nat.le_of_ble_eq_true rfl, Nat.le_of_ble_eq_true rfl⟩ ⟨Nat.le_of_ble_eq_true rfl, Nat.le_of_ble_eq_true rfl⟩ hl.1 (Nat.le_of_ble_eq_true rfl) dX12_does_123 (fun r_123 _ H locs hp_123 hw => ?_)
    obtain rfl : r_123 = (asM U ((U.2 6) ((4 * k) + 1)) ((U.2 6) ((4 * k) + 2))).2 := hp_123
    replace hw : WH G s (moW G mo (asM U ((U.2 6) ((4 * k) + 1)) ((U.2 6) ((4 * k) + 2))).1 ++ X) H locs := hw
    refine lv_istore (lv' := [(4, .int (asM U ((U.2 6) ((4 * k) + 1)) ((U.2 6) ((4 * k) + 2))).2), (3, .int ((U.2 6) ((4 * k) + 2))), (2, .int ((U.2 6) ((4 * k) + 1))), (0, .ref (mo 0)), (1, .int (nI k))]) C.1 C.2.1 dX12_does_126 hl (by decide) rfl (fun ls hl => ?_)
    refine lv_goto (tgt := 206) C.1 C.2.1 dX12_does_128 (by decide) ?_
    exact r_vret C hw rfl () (trivial) (by rw [doC_116 hk30_116]) (Nat.le_of_ble_eq_true rfl) (Nat.le_of_ble_eq_true rfl) dX12_does_206
  rcases tb_do ((U.2 6) (4 * k)) hk30_98 hk30_99 hk30_108 hk30_112 hk30_115 hk30_116 with hr | ⟨hr1, hr2, hr3⟩
  · refine lv_tableOut (tgt := 200) C.1 C.2.1 dX12_does_30 hr (by decide) ?_
    refine lv_aload_n C.1 C.2.1 dX12_does_200 rfl (lv_at hl 2 rfl) ?_
    refine r_vi C hw (k12_doOpen hF (mo := mo) (U := U) (X := X)  ) ml_X12_126 yf_X12_doOpen 0 rfl rfl (As := []) rfl rfl ⟨Nat.le_of_ble_eq_true rfl, Nat.le_of_ble_eq_true rfl⟩ ⟨Nat.le_of_ble_eq_true rfl, Nat.le_of_ble_eq_true rfl⟩ hl.1 (Nat.le_of_ble_eq_true rfl) dX12_does_201 (fun r_201 _ H locs hp_201 hw => ?_)
    obtain rfl : r_201 = (opnM U).2 := hp_201
    replace hw : WH G s (moW G mo (opnM U).1 ++ X) H locs := hw
    refine lv_istore (lv' := [(4, .int (opnM U).2), (3, .int ((U.2 6) ((4 * k) + 2))), (2, .int ((U.2 6) ((4 * k) + 1))), (0, .ref (mo 0)), (1, .int (nI k))]) C.1 C.2.1 dX12_does_204 hl (by decide) rfl (fun ls hl => ?_)
    exact r_vret C hw rfl () (trivial) (by rw [doC_d hk30_98 hk30_99 hk30_108 hk30_112 hk30_115 hk30_116]) (Nat.le_of_ble_eq_true rfl) (Nat.le_of_ble_eq_true rfl) dX12_does_206
  · refine lv_tableIn (tgt := 200) C.1 C.2.1 dX12_does_30 hr1 hr2 (off := 170) hr3 (by decide) ?_
    refine lv_aload_n C.1 C.2.1 dX12_does_200 rfl (lv_at hl 2 rfl) ?_
    refine r_vi C hw (k12_doOpen hF (mo := mo) (U := U) (X := X)  ) ml_X12_126 yf_X12_doOpen 0 rfl rfl (As := []) rfl rfl ⟨Nat.le_of_ble_eq_true rfl, Nat.le_of_ble_eq_true rfl⟩ ⟨Nat.le_of_ble_eq_true rfl, Nat.le_of_ble_eq_true rfl⟩ hl.1 (Nat.le_of_ble_eq_true rfl) dX12_does_201 (fun r_201 _ H locs hp_201 hw => ?_)
    obtain rfl : r_201 = (opnM U).2 := hp_201
    replace hw : WH G s (moW G mo (opnM U).1 ++ X) H locs := hw
    refine lv_istore (lv' := [(4, .int (opnM U).2), (3, .int ((U.2 6) ((4 * k) + 2))), (2, .int ((U.2 6) ((4 * k) + 1))), (0, .ref (mo 0)), (1, .int (nI k))]) C.1 C.2.1 dX12_does_204 hl (by decide) rfl (fun ls hl => ?_)
    exact r_vret C hw rfl () (trivial) (by rw [doC_d hk30_98 hk30_99 hk30_108 hk30_112 hk30_115 hk30_116]) (Nat.le_of_ble_eq_true rfl) (Nat.le_of_ble_eq_true rfl) dX12_does_206

