/-! The model: an order's line, the book's line -/
/-- the numbers that lines show are short -/
def okL (f : Nat → Int32) : Prop := (∀ q, q < nF f → (∃ a, a < 100000 ∧ oF f q 0 = nI a) ∧ (∃ a, a < 100000 ∧ oF f q 3 = nI a) ∧ ∃ a, a < 100000 ∧ oF f q 4 = nI a) ∧ ∀ b j, mbF f b (nF f) = some j → ∃ a, a < 100000 ∧ smF f b (oF f j 3) (oF f j 3) (nF f) = nI a
theorem pl_is {f : Nat → Int32} {x : Int32} {n j : Nat} (h : plF f x n = some j) : oF f j 0 = x := by
  have := (lst_lt h).2
  simpa using this
def wrL (f : Nat → Int32) (j : Nat) : List Int32 := dgL 4 (oF f j 0).toNatClampNeg ++ [if byF f j = true then 98 else 115] ++ amL (oF f j 4).toNatClampNeg (oF f j 3).toNatClampNeg
def woM (U : MV_) (x : Int32) : MV_ × Int32 := match plF (U.2 0) x (nF (U.2 0)) with
  | none => (mI U 2 1, 0)
  | some j => (syU (mI (mI U 2 0) 3 0) 0 (wrL (U.2 0) j), nI (0 + (wrL (U.2 0) j).length))
def sbL (f : Nat → Int32) (b : Bool) : List Int32 := match mbF f b (nF f) with
  | none => [45]
  | some j => amL (smF f b (oF f j 3) (oF f j 3) (nF f)).toNatClampNeg (oF f j 3).toNatClampNeg
theorem sbL_len {f : Nat → Int32} {b : Bool} : (sbL f b).length ≤ 11 := by
  unfold sbL
  split
  · simp
  · exact amL_len.1
def wbL (f : Nat → Int32) : List Int32 := sbL f true ++ [47] ++ sbL f false

set_option maxHeartbeats 4000000 in
set_option maxRecDepth 100000 in
theorem k12_writeOrder {l : Launch} {G : Gx} (hF : SF l G) {mo : Nat → Nat} {U : MV_} {X : va_W} (hok : okF (U.2 0)) (hL : okL (U.2 0)) (x : Int32) : MI l G yX12_writeOrder cX12_writeOrder 3 .int 7 0 0 [.ref (mo 0), .int x] (moW G mo U ++ X) (fun r _ => r = (woM U x).2) (fun _ : Unit => moW G mo ((woM U x).1) ++ X) := by
  refine mt_of hF (by decide) (Nat.le_of_ble_eq_true rfl) ?_
  intro p e s m below meth c C hin ls hl H locs hw
  have hl : lv_has ls 3 [(0, .ref (mo 0)), (1, .int x)] := hl
  refine lv_aload_n C.1 C.2.1 dX12_writeOrder_0 rfl (lv_at hl 0 rfl) ?_
  refine lv_iload_n C.1 C.2.1 dX12_writeOrder_1 rfl (lv_at hl 1 rfl) ?_
  refine r_vi C hw (k12_placeOf hF (mo := mo) (U := U) (X := X) (n := (nF (U.2 0))) hok.1 hok.2.1 x) ml_X12_117 yf_X12_placeOf 0 rfl rfl (As := [.int x]) rfl rfl ⟨Nat.le_of_ble_eq_true rfl, Nat.le_of_ble_eq_true rfl⟩ ⟨Nat.le_of_ble_eq_true rfl, Nat.le_of_ble_eq_true rfl⟩ hl.1 (Nat.le_of_ble_eq_true rfl) dX12_writeOrder_2 (fun r_2 _ H locs hp_2 hw => ?_)
  obtain rfl : r_2 = oI (plF (U.2 0) x (nF (U.2 0))) := hp_2
  replace hw : WH G s (moW G mo U ++ X) H locs := hw
  refine lv_istore_n (lv' := [(2, .int (oI (plF (U.2 0) x (nF (U.2 0))))), (0, .ref (mo 0)), (1, .int x)]) C.1 C.2.1 dX12_writeOrder_5 rfl hl (by decide) rfl (fun ls hl => ?_)
  refine lv_aload_n C.1 C.2.1 dX12_writeOrder_6 rfl (lv_at hl 1 rfl) ?_
  refine lv_iload_n C.1 C.2.1 dX12_writeOrder_7 rfl (lv_at hl 0 rfl) ?_
  refine lv_if_lt (tgt := 15) C.1 C.2.1 dX12_writeOrder_8 (by decide) (fun c_8 => ?_) (fun c_8 => ?_)
  · have ho : plF (U.2 0) x (nF (U.2 0)) = none := (oI_ge (fun j hj => (pl_lt hok hj).2.2)).mp c_8
    refine lv_iconst (v := 0) C.1 C.2.1 dX12_writeOrder_15 (by decide) ?_
    refine r_vi C hw (k12_isThere hF (mo := mo) (U := U) (X := X) false) ml_X12_142 yf_X12_isThere 0 rfl rfl (As := [.int 0]) rfl rfl ⟨Nat.le_of_ble_eq_true rfl, Nat.le_of_ble_eq_true rfl⟩ ⟨Nat.le_of_ble_eq_true rfl, Nat.le_of_ble_eq_true rfl⟩ hl.1 (Nat.le_of_ble_eq_true rfl) dX12_writeOrder_16 (fun r_16 _ H locs hp_16 hw => ?_)
    obtain rfl : r_16 = bI false := hp_16
    replace hw : WH G s (moW G mo (mI U 2 (bI (!false))) ++ X) H locs := hw
    refine lv_if_ne (tgt := 24) C.1 C.2.1 dX12_writeOrder_19 (by decide) (fun c_19 => absurd (by decide) c_19) (fun c_19 => ?_)
    refine lv_iconst (v := 0) C.1 C.2.1 dX12_writeOrder_22 (by decide) ?_
    exact r_iret C hw rfl rfl () (by rw [woM, ho]) (by rw [woM, ho] <;> rfl) (Nat.le_of_ble_eq_true rfl) (Nat.le_of_ble_eq_true rfl) dX12_writeOrder_23
  · obtain ⟨j, ho⟩ : ∃ j, plF (U.2 0) x (nF (U.2 0)) = some j := by cases hq : plF (U.2 0) x (nF (U.2 0)) with | none => exact absurd ((oI_ge (fun j hj => (pl_lt hok hj).2.2)).mpr hq) c_8 | some j => exact ⟨j, rfl⟩
    obtain ⟨hj1, hj2, hj3⟩ := pl_lt hok ho
    obtain ⟨⟨n0, hn0, hx0⟩, ⟨n3, hn3, hx3⟩, n4, hn4, hx4⟩ := hL.1 j hj1
    have hxx : nI n0 = x := hx0.symm.trans (pl_is ho)
    subst hxx
    replace hl : lv_has ls 3 [(2, .int (nI j)), (0, .ref (mo 0)), (1, .int (nI n0))] := hl.to_eq (by rw [ho]; rfl)
    refine lv_iconst (v := 1) C.1 C.2.1 dX12_writeOrder_11 (by decide) ?_
    refine lv_goto (tgt := 16) C.1 C.2.1 dX12_writeOrder_12 (by decide) ?_
    refine r_vi C hw (k12_isThere hF (mo := mo) (U := U) (X := X) true) ml_X12_142 yf_X12_isThere 0 rfl rfl (As := [.int 1]) rfl rfl ⟨Nat.le_of_ble_eq_true rfl, Nat.le_of_ble_eq_true rfl⟩ ⟨Nat.le_of_ble_eq_true rfl, Nat.le_of_ble_eq_true rfl⟩ hl.1 (Nat.le_of_ble_eq_true rfl) dX12_writeOrder_16 (fun r_16 _ H locs hp_16 hw => ?_)
    obtain rfl : r_16 = bI true := hp_16
    replace hw : WH G s (moW G mo (mI U 2 (bI (!true))) ++ X) H locs := hw
    refine lv_if_ne (tgt := 24) C.1 C.2.1 dX12_writeOrder_19 (by decide) (fun c_19 => ?_) (fun c_19 => absurd c_19 (by decide))
    refine lv_aload_n C.1 C.2.1 dX12_writeOrder_24 rfl (lv_at hl 1 rfl) ?_
    refine lv_iconst (v := 0) C.1 C.2.1 dX12_writeOrder_25 (by decide) ?_
    refine r_put C hw 0 rfl rfl in_X12 tyX12 tyX12_ok nmX12 8 (by decide) fl_X12_165 rfl rfl rfl rfl (Nat.le_of_ble_eq_true rfl) (w' := moW G mo (mI (mI U 2 (bI (!true))) 3 0) ++ X) rfl dX12_writeOrder_26 (fun H locs hw => ?_)
    replace hw : WH G s (moW G mo (mI (mI U 2 0) 3 0) ++ X) H locs := hw
    refine lv_aload_n C.1 C.2.1 dX12_writeOrder_29 rfl (lv_at hl 1 rfl) ?_
    refine lv_iload_n C.1 C.2.1 dX12_writeOrder_30 rfl (lv_at hl 2 rfl) ?_
    have hln_31 := @dgL_len 4 n0
    refine r_vv C hw (k12_saysNumber_4 hF (mo := mo) (U := (mI (mI U 2 0) 3 0)) (X := X) (k := 0) rfl (n := n0) (by omega) (by (try simp only [List.length_append, List.length_singleton, List.length_cons, List.length_nil]); omega)) ml_X12_168 yf_X12_saysNumber 0 rfl rfl (As := [.int (nI n0)]) rfl rfl ⟨Nat.le_of_ble_eq_true rfl, Nat.le_of_ble_eq_true rfl⟩ ⟨Nat.le_of_ble_eq_true rfl, Nat.le_of_ble_eq_true rfl⟩ hl.1 (Nat.le_of_ble_eq_true rfl) dX12_writeOrder_31 (fun _ H locs hp_31 hw => ?_)
    replace hw : WH G s (moW G mo (syU (mI (mI U 2 0) 3 0) 0 (dgL 4 n0)) ++ X) H locs := hw
    refine lv_aload_n C.1 C.2.1 dX12_writeOrder_34 rfl (lv_at hl 1 rfl) ?_
    refine lv_aload_n C.1 C.2.1 dX12_writeOrder_35 rfl (lv_at hl 1 rfl) ?_
    refine lv_iload_n C.1 C.2.1 dX12_writeOrder_36 rfl (lv_at hl 0 rfl) ?_
    refine r_vi C hw (k12_buys hF (mo := mo) (U := (syU (mI (mI U 2 0) 3 0) 0 (dgL 4 n0))) (X := X) (i := j) (by omega)) ml_X12_62 yf_X12_buys 0 rfl rfl (As := [.int (nI j)]) rfl rfl ⟨Nat.le_of_ble_eq_true rfl, Nat.le_of_ble_eq_true rfl⟩ ⟨Nat.le_of_ble_eq_true rfl, Nat.le_of_ble_eq_true rfl⟩ hl.1 (Nat.le_of_ble_eq_true rfl) dX12_writeOrder_37 (fun r_37 _ H locs hp_37 hw => ?_)
    obtain rfl : r_37 = bI (byF (U.2 0) j) := hp_37
    replace hw : WH G s (moW G mo (syU (mI (mI U 2 0) 3 0) 0 (dgL 4 n0)) ++ X) H locs := hw
    refine lv_if_eq (tgt := 48) C.1 C.2.1 dX12_writeOrder_40 (by decide) (fun c_40 => ?_) (fun c_40 => ?_)
    · have hby : byF (U.2 0) j = false := bI_eq0.mp c_40
      refine lv_bipush (v := 115) C.1 C.2.1 dX12_writeOrder_48 (by decide) ?_
      refine r_vv C hw (k12_says hF (mo := mo) (U := (syU (mI (mI U 2 0) 3 0) 0 (dgL 4 n0))) (X := X) (k := (0 + ((dgL 4 n0)).length)) syU_3 (by (try simp only [List.length_append, List.length_singleton, List.length_cons, List.length_nil]); omega) 115) ml_X12_171 yf_X12_says 0 rfl rfl (As := [.int 115]) rfl rfl ⟨Nat.le_of_ble_eq_true rfl, Nat.le_of_ble_eq_true rfl⟩ ⟨Nat.le_of_ble_eq_true rfl, Nat.le_of_ble_eq_true rfl⟩ hl.1 (Nat.le_of_ble_eq_true rfl) dX12_writeOrder_50 (fun _ H locs hp_50 hw => ?_)
      rw [syU_app rfl] at hw
      replace hw : WH G s (moW G mo (syU (mI (mI U 2 0) 3 0) 0 ((dgL 4 n0) ++ [115])) ++ X) H locs := hw
      refine lv_aload_n C.1 C.2.1 dX12_writeOrder_53 rfl (lv_at hl 1 rfl) ?_
      refine lv_aload_n C.1 C.2.1 dX12_writeOrder_54 rfl (lv_at hl 1 rfl) ?_
      refine lv_iload_n C.1 C.2.1 dX12_writeOrder_55 rfl (lv_at hl 0 rfl) ?_
      refine lv_iconst (v := 4) C.1 C.2.1 dX12_writeOrder_56 (by decide) ?_
      refine r_vi C hw (k12_of hF (mo := mo) (U := (syU (mI (mI U 2 0) 3 0) 0 ((dgL 4 n0) ++ [115]))) (X := X) (i := j) (k := 4) (by omega) (by omega)) ml_X12_55 yf_X12_of 0 rfl rfl (As := [.int (nI j), .int 4]) rfl rfl ⟨Nat.le_of_ble_eq_true rfl, Nat.le_of_ble_eq_true rfl⟩ ⟨Nat.le_of_ble_eq_true rfl, Nat.le_of_ble_eq_true rfl⟩ hl.1 (Nat.le_of_ble_eq_true rfl) dX12_writeOrder_57 (fun r_57 _ H locs hp_57 hw => ?_)
      obtain rfl : r_57 = oF (U.2 0) j 4 := hp_57
      replace hw : WH G s (moW G mo (syU (mI (mI U 2 0) 3 0) 0 ((dgL 4 n0) ++ [115])) ++ X) H locs := hw
      refine r_toe (show _ = nI n4 from hx4) ?_
      refine lv_aload_n C.1 C.2.1 dX12_writeOrder_60 rfl (lv_at hl 1 rfl) ?_
      refine lv_iload_n C.1 C.2.1 dX12_writeOrder_61 rfl (lv_at hl 0 rfl) ?_
      refine lv_iconst (v := 3) C.1 C.2.1 dX12_writeOrder_62 (by decide) ?_
      refine r_vi C hw (k12_of hF (mo := mo) (U := (syU (mI (mI U 2 0) 3 0) 0 ((dgL 4 n0) ++ [115]))) (X := X) (i := j) (k := 3) (by omega) (by omega)) ml_X12_55 yf_X12_of 0 rfl rfl (As := [.int (nI j), .int 3]) rfl rfl ⟨Nat.le_of_ble_eq_true rfl, Nat.le_of_ble_eq_true rfl⟩ ⟨Nat.le_of_ble_eq_true rfl, Nat.le_of_ble_eq_true rfl⟩ hl.1 (Nat.le_of_ble_eq_true rfl) dX12_writeOrder_63 (fun r_63 _ H locs hp_63 hw => ?_)
      obtain rfl : r_63 = oF (U.2 0) j 3 := hp_63
      replace hw : WH G s (moW G mo (syU (mI (mI U 2 0) 3 0) 0 ((dgL 4 n0) ++ [115])) ++ X) H locs := hw
      refine r_toe (show _ = nI n3 from hx3) ?_
      have hlq_66 := @dgL_len 4 n4
      have hlp_66 := @dgL_len 4 n3
      refine r_vv C hw (k12_saysAmount hF (mo := mo) (U := (syU (mI (mI U 2 0) 3 0) 0 ((dgL 4 n0) ++ [115]))) (X := X) (k := (0 + (((dgL 4 n0) ++ [115])).length)) syU_3 (q := n4) (n := n3) (by omega) (by omega) (by (try simp only [List.length_append, List.length_singleton, List.length_cons, List.length_nil]); omega)) ml_X12_175 yf_X12_saysAmount 0 rfl rfl (As := [.int (nI n4), .int (nI n3)]) rfl rfl ⟨Nat.le_of_ble_eq_true rfl, Nat.le_of_ble_eq_true rfl⟩ ⟨Nat.le_of_ble_eq_true rfl, Nat.le_of_ble_eq_true rfl⟩ hl.1 (Nat.le_of_ble_eq_true rfl) dX12_writeOrder_66 (fun _ H locs hp_66 hw => ?_)
      rw [syU_app rfl] at hw
      replace hw : WH G s (moW G mo (syU (mI (mI U 2 0) 3 0) 0 (((dgL 4 n0) ++ [115]) ++ (amL n4 n3))) ++ X) H locs := hw
      refine lv_aload_n C.1 C.2.1 dX12_writeOrder_69 rfl (lv_at hl 1 rfl) ?_
      refine r_get C hw 0 rfl rfl in_X12 8 (by decide) fl_X12_165 rfl (v := .int ((syU (mI (mI U 2 0) 3 0) 0 (((dgL 4 n0) ++ [115]) ++ (amL n4 n3))).1 3)) rfl dX12_writeOrder_70 ?_
      have hz : woM U (nI n0) = (syU (mI (mI U 2 0) 3 0) 0 (((dgL 4 n0) ++ [115]) ++ (amL n4 n3)), nI (0 + ((((dgL 4 n0) ++ [115]) ++ (amL n4 n3))).length)) := by rw [woM, ho]; show (syU _ 0 (wrL (U.2 0) j), nI (0 + (wrL (U.2 0) j).length)) = _; rw [wrL, hx0, hx3, hx4, nI_clamp (by omega), nI_clamp (by omega), nI_clamp (by omega), hby]; rfl
      exact r_iret C hw rfl rfl () (by rw [hz]; exact syU_3) (by rw [hz]) (Nat.le_of_ble_eq_true rfl) (Nat.le_of_ble_eq_true rfl) dX12_writeOrder_73
    · have hby : byF (U.2 0) j = true := bI_ne0.mp c_40
      refine lv_bipush (v := 98) C.1 C.2.1 dX12_writeOrder_43 (by decide) ?_
      refine lv_goto (tgt := 50) C.1 C.2.1 dX12_writeOrder_45 (by decide) ?_
      refine r_vv C hw (k12_says hF (mo := mo) (U := (syU (mI (mI U 2 0) 3 0) 0 (dgL 4 n0))) (X := X) (k := (0 + ((dgL 4 n0)).length)) syU_3 (by (try simp only [List.length_append, List.length_singleton, List.length_cons, List.length_nil]); omega) 98) ml_X12_171 yf_X12_says 0 rfl rfl (As := [.int 98]) rfl rfl ⟨Nat.le_of_ble_eq_true rfl, Nat.le_of_ble_eq_true rfl⟩ ⟨Nat.le_of_ble_eq_true rfl, Nat.le_of_ble_eq_true rfl⟩ hl.1 (Nat.le_of_ble_eq_true rfl) dX12_writeOrder_50 (fun _ H locs hp_50 hw => ?_)
      rw [syU_app rfl] at hw
      replace hw : WH G s (moW G mo (syU (mI (mI U 2 0) 3 0) 0 ((dgL 4 n0) ++ [98])) ++ X) H locs := hw
      refine lv_aload_n C.1 C.2.1 dX12_writeOrder_53 rfl (lv_at hl 1 rfl) ?_
      refine lv_aload_n C.1 C.2.1 dX12_writeOrder_54 rfl (lv_at hl 1 rfl) ?_
      refine lv_iload_n C.1 C.2.1 dX12_writeOrder_55 rfl (lv_at hl 0 rfl) ?_
      refine lv_iconst (v := 4) C.1 C.2.1 dX12_writeOrder_56 (by decide) ?_
      refine r_vi C hw (k12_of hF (mo := mo) (U := (syU (mI (mI U 2 0) 3 0) 0 ((dgL 4 n0) ++ [98]))) (X := X) (i := j) (k := 4) (by omega) (by omega)) ml_X12_55 yf_X12_of 0 rfl rfl (As := [.int (nI j), .int 4]) rfl rfl ⟨Nat.le_of_ble_eq_true rfl, Nat.le_of_ble_eq_true rfl⟩ ⟨Nat.le_of_ble_eq_true rfl, Nat.le_of_ble_eq_true rfl⟩ hl.1 (Nat.le_of_ble_eq_true rfl) dX12_writeOrder_57 (fun r_57 _ H locs hp_57 hw => ?_)
      obtain rfl : r_57 = oF (U.2 0) j 4 := hp_57
      replace hw : WH G s (moW G mo (syU (mI (mI U 2 0) 3 0) 0 ((dgL 4 n0) ++ [98])) ++ X) H locs := hw
      refine r_toe (show _ = nI n4 from hx4) ?_
      refine lv_aload_n C.1 C.2.1 dX12_writeOrder_60 rfl (lv_at hl 1 rfl) ?_
      refine lv_iload_n C.1 C.2.1 dX12_writeOrder_61 rfl (lv_at hl 0 rfl) ?_
      refine lv_iconst (v := 3) C.1 C.2.1 dX12_writeOrder_62 (by decide) ?_
      refine r_vi C hw (k12_of hF (mo := mo) (U := (syU (mI (mI U 2 0) 3 0) 0 ((dgL 4 n0) ++ [98]))) (X := X) (i := j) (k := 3) (by omega) (by omega)) ml_X12_55 yf_X12_of 0 rfl rfl (As := [.int (nI j), .int 3]) rfl rfl ⟨Nat.le_of_ble_eq_true rfl, Nat.le_of_ble_eq_true rfl⟩ ⟨Nat.le_of_ble_eq_true rfl, Nat.le_of_ble_eq_true rfl⟩ hl.1 (Nat.le_of_ble_eq_true rfl) dX12_writeOrder_63 (fun r_63 _ H locs hp_63 hw => ?_)
      obtain rfl : r_63 = oF (U.2 0) j 3 := hp_63
      replace hw : WH G s (moW G mo (syU (mI (mI U 2 0) 3 0) 0 ((dgL 4 n0) ++ [98])) ++ X) H locs := hw
      refine r_toe (show _ = nI n3 from hx3) ?_
      have hlq_66 := @dgL_len 4 n4
      have hlp_66 := @dgL_len 4 n3
      refine r_vv C hw (k12_saysAmount hF (mo := mo) (U := (syU (mI (mI U 2 0) 3 0) 0 ((dgL 4 n0) ++ [98]))) (X := X) (k := (0 + (((dgL 4 n0) ++ [98])).length)) syU_3 (q := n4) (n := n3) (by omega) (by omega) (by (try simp only [List.length_append, List.length_singleton, List.length_cons, List.length_nil]); omega)) ml_X12_175 yf_X12_saysAmount 0 rfl rfl (As := [.int (nI n4), .int (nI n3)]) rfl rfl ⟨Nat.le_of_ble_eq_true rfl, Nat.le_of_ble_eq_true rfl⟩ ⟨Nat.le_of_ble_eq_true rfl, Nat.le_of_ble_eq_true rfl⟩ hl.1 (Nat.le_of_ble_eq_true rfl) dX12_writeOrder_66 (fun _ H locs hp_66 hw => ?_)
      rw [syU_app rfl] at hw
      replace hw : WH G s (moW G mo (syU (mI (mI U 2 0) 3 0) 0 (((dgL 4 n0) ++ [98]) ++ (amL n4 n3))) ++ X) H locs := hw
      refine lv_aload_n C.1 C.2.1 dX12_writeOrder_69 rfl (lv_at hl 1 rfl) ?_
      refine r_get C hw 0 rfl rfl in_X12 8 (by decide) fl_X12_165 rfl (v := .int ((syU (mI (mI U 2 0) 3 0) 0 (((dgL 4 n0) ++ [98]) ++ (amL n4 n3))).1 3)) rfl dX12_writeOrder_70 ?_
      have hz : woM U (nI n0) = (syU (mI (mI U 2 0) 3 0) 0 (((dgL 4 n0) ++ [98]) ++ (amL n4 n3)), nI (0 + ((((dgL 4 n0) ++ [98]) ++ (amL n4 n3))).length)) := by rw [woM, ho]; show (syU _ 0 (wrL (U.2 0) j), nI (0 + (wrL (U.2 0) j).length)) = _; rw [wrL, hx0, hx3, hx4, nI_clamp (by omega), nI_clamp (by omega), nI_clamp (by omega), hby]; rfl
      exact r_iret C hw rfl rfl () (by rw [hz]; exact syU_3) (by rw [hz]) (Nat.le_of_ble_eq_true rfl) (Nat.le_of_ble_eq_true rfl) dX12_writeOrder_73

set_option maxHeartbeats 4000000 in
set_option maxRecDepth 100000 in
theorem k12_saysBest {l : Launch} {G : Gx} (hF : SF l G) {mo : Nat → Nat} {U : MV_} {X : va_W} (hok : okF (U.2 0)) (hL : okL (U.2 0)) {k : Nat} (hk1 : U.1 3 = nI k) (hk : k + 11 ≤ 40) (b : Bool) : MV l G yX12_saysBest cX12_saysBest 4 7 0 0 [.ref (mo 0), .int (bI b)] (moW G mo U ++ X) (fun _ => True) (fun _ : Unit => moW G mo (syU U k (sbL (U.2 0) b)) ++ X) := by
  refine mt_of hF (by decide) (Nat.le_of_ble_eq_true rfl) ?_
  intro p e s m below meth c C hin ls hl H locs hw
  have hl : lv_has ls 4 [(0, .ref (mo 0)), (1, .int (bI b))] := hl
  refine lv_aload_n C.1 C.2.1 dX12_saysBest_0 rfl (lv_at hl 0 rfl) ?_
  refine lv_iload_n C.1 C.2.1 dX12_saysBest_1 rfl (lv_at hl 1 rfl) ?_
  refine r_vi C hw (k12_best hF (mo := mo) (U := U) (X := X) (n := (nF (U.2 0))) hok.1 hok.2.1 b) ml_X12_70 yf_X12_best 0 rfl rfl (As := [.int (bI b)]) rfl rfl ⟨Nat.le_of_ble_eq_true rfl, Nat.le_of_ble_eq_true rfl⟩ ⟨Nat.le_of_ble_eq_true rfl, Nat.le_of_ble_eq_true rfl⟩ hl.1 (Nat.le_of_ble_eq_true rfl) dX12_saysBest_2 (fun r_2 _ H locs hp_2 hw => ?_)
  obtain rfl : r_2 = oI (mbF (U.2 0) b (nF (U.2 0))) := hp_2
  replace hw : WH G s (moW G mo U ++ X) H locs := hw
  refine lv_istore_n (lv' := [(2, .int (oI (mbF (U.2 0) b (nF (U.2 0))))), (0, .ref (mo 0)), (1, .int (bI b))]) C.1 C.2.1 dX12_saysBest_5 rfl hl (by decide) rfl (fun ls hl => ?_)
  refine lv_iload_n C.1 C.2.1 dX12_saysBest_6 rfl (lv_at hl 0 rfl) ?_
  refine lv_if_ge (tgt := 19) C.1 C.2.1 dX12_saysBest_7 (by decide) (fun c_7 => ?_) (fun c_7 => ?_)
  · obtain ⟨j, ho⟩ : ∃ j, mbF (U.2 0) b (nF (U.2 0)) = some j := by cases hq : mbF (U.2 0) b (nF (U.2 0)) with | none => rw [hq] at c_7; exact absurd c_7 (by decide) | some j => exact ⟨j, rfl⟩
    obtain ⟨hj1, hj2, hj3⟩ := mb_lt3 hok ho
    obtain ⟨⟨n0, hn0, hx0⟩, ⟨n3, hn3, hx3⟩, n4, hn4, hx4⟩ := hL.1 j hj1
    obtain ⟨n5, hn5, hx5⟩ := hL.2 b j ho
    rw [hx3] at hx5
    replace hl : lv_has ls 4 [(2, .int (nI j)), (0, .ref (mo 0)), (1, .int (bI b))] := hl.to_eq (by rw [ho]; rfl)
    refine lv_aload_n C.1 C.2.1 dX12_saysBest_19 rfl (lv_at hl 1 rfl) ?_
    refine lv_iload_n C.1 C.2.1 dX12_saysBest_20 rfl (lv_at hl 0 rfl) ?_
    refine lv_iconst (v := 3) C.1 C.2.1 dX12_saysBest_21 (by decide) ?_
    refine r_vi C hw (k12_of hF (mo := mo) (U := U) (X := X) (i := j) (k := 3) (by omega) (by omega)) ml_X12_55 yf_X12_of 0 rfl rfl (As := [.int (nI j), .int 3]) rfl rfl ⟨Nat.le_of_ble_eq_true rfl, Nat.le_of_ble_eq_true rfl⟩ ⟨Nat.le_of_ble_eq_true rfl, Nat.le_of_ble_eq_true rfl⟩ hl.1 (Nat.le_of_ble_eq_true rfl) dX12_saysBest_22 (fun r_22 _ H locs hp_22 hw => ?_)
    obtain rfl : r_22 = oF (U.2 0) j 3 := hp_22
    replace hw : WH G s (moW G mo U ++ X) H locs := hw
    refine r_toe (show _ = nI n3 from hx3) ?_
    refine lv_istore_n (lv' := [(3, .int (nI n3)), (2, .int (nI j)), (0, .ref (mo 0)), (1, .int (bI b))]) C.1 C.2.1 dX12_saysBest_25 rfl hl (by decide) rfl (fun ls hl => ?_)
    refine lv_aload_n C.1 C.2.1 dX12_saysBest_26 rfl (lv_at hl 2 rfl) ?_
    refine lv_aload_n C.1 C.2.1 dX12_saysBest_27 rfl (lv_at hl 2 rfl) ?_
    refine lv_iload_n C.1 C.2.1 dX12_saysBest_28 rfl (lv_at hl 3 rfl) ?_
    refine lv_iload_n C.1 C.2.1 dX12_saysBest_29 rfl (lv_at hl 0 rfl) ?_
    refine lv_iload_n C.1 C.2.1 dX12_saysBest_30 rfl (lv_at hl 0 rfl) ?_
    refine r_vi C hw (k12_sum hF (mo := mo) (U := U) (X := X) (n := (nF (U.2 0))) hok.1 hok.2.1 b (nI n3) (nI n3)) ml_X12_158 yf_X12_sum 0 rfl rfl (As := [.int (bI b), .int (nI n3), .int (nI n3)]) rfl rfl ⟨Nat.le_of_ble_eq_true rfl, Nat.le_of_ble_eq_true rfl⟩ ⟨Nat.le_of_ble_eq_true rfl, Nat.le_of_ble_eq_true rfl⟩ hl.1 (Nat.le_of_ble_eq_true rfl) dX12_saysBest_31 (fun r_31 _ H locs hp_31 hw => ?_)
    obtain rfl : r_31 = smF (U.2 0) b (nI n3) (nI n3) (nF (U.2 0)) := hp_31
    replace hw : WH G s (moW G mo U ++ X) H locs := hw
    refine r_toe (show _ = nI n5 from hx5) ?_
    refine lv_iload_n C.1 C.2.1 dX12_saysBest_34 rfl (lv_at hl 0 rfl) ?_
    have hlq_35 := @dgL_len 4 n5
    have hlp_35 := @dgL_len 4 n3
    refine r_vv C hw (k12_saysAmount hF (mo := mo) (U := U) (X := X) (k := k) hk1 (q := n5) (n := n3) (by omega) (by omega) (by (try simp only [List.length_append, List.length_singleton, List.length_cons, List.length_nil]); omega)) ml_X12_175 yf_X12_saysAmount 0 rfl rfl (As := [.int (nI n5), .int (nI n3)]) rfl rfl ⟨Nat.le_of_ble_eq_true rfl, Nat.le_of_ble_eq_true rfl⟩ ⟨Nat.le_of_ble_eq_true rfl, Nat.le_of_ble_eq_true rfl⟩ hl.1 (Nat.le_of_ble_eq_true rfl) dX12_saysBest_35 (fun _ H locs hp_35 hw => ?_)
    replace hw : WH G s (moW G mo (syU U k (amL n5 n3)) ++ X) H locs := hw
    have hz : sbL (U.2 0) b = amL n5 n3 := by rw [sbL, ho]; show amL _ _ = _; rw [hx3, hx5, nI_clamp (by omega), nI_clamp (by omega)]
    exact r_vret C hw rfl () (trivial) (by rw [hz]) (Nat.le_of_ble_eq_true rfl) (Nat.le_of_ble_eq_true rfl) dX12_saysBest_38
  · have ho : mbF (U.2 0) b (nF (U.2 0)) = none := (oI_ge (fun j hj => (mb_lt3 hok hj).2.2)).mp (Int32.not_le.mp c_7)
    refine lv_aload_n C.1 C.2.1 dX12_saysBest_10 rfl (lv_at hl 1 rfl) ?_
    refine lv_bipush (v := 45) C.1 C.2.1 dX12_saysBest_11 (by decide) ?_
    refine r_vv C hw (k12_says hF (mo := mo) (U := U) (X := X) (k := k) hk1 (by (try simp only [List.length_append, List.length_singleton, List.length_cons, List.length_nil]); omega) 45) ml_X12_171 yf_X12_says 0 rfl rfl (As := [.int 45]) rfl rfl ⟨Nat.le_of_ble_eq_true rfl, Nat.le_of_ble_eq_true rfl⟩ ⟨Nat.le_of_ble_eq_true rfl, Nat.le_of_ble_eq_true rfl⟩ hl.1 (Nat.le_of_ble_eq_true rfl) dX12_saysBest_13 (fun _ H locs hp_13 hw => ?_)
    replace hw : WH G s (moW G mo (syU U k ([45])) ++ X) H locs := hw
    refine lv_goto (tgt := 38) C.1 C.2.1 dX12_saysBest_16 (by decide) ?_
    have hz : sbL (U.2 0) b = [45] := by rw [sbL, ho]
    exact r_vret C hw rfl () (trivial) (by rw [hz]) (Nat.le_of_ble_eq_true rfl) (Nat.le_of_ble_eq_true rfl) dX12_saysBest_38

set_option maxHeartbeats 4000000 in
set_option maxRecDepth 100000 in
theorem k12_writeBook {l : Launch} {G : Gx} (hF : SF l G) {mo : Nat → Nat} {U : MV_} {X : va_W} (hok : okF (U.2 0)) (hL : okL (U.2 0)) : MI l G yX12_writeBook cX12_writeBook 1 .int 8 0 0 [.ref (mo 0)] (moW G mo U ++ X) (fun r _ => r = nI (0 + (wbL (U.2 0)).length)) (fun _ : Unit => moW G mo (syU (mI (mI U 2 0) 3 0) 0 (wbL (U.2 0))) ++ X) := by
  refine mt_of hF (by decide) (Nat.le_of_ble_eq_true rfl) ?_
  intro p e s m below meth c C hin ls hl H locs hw
  have hl : lv_has ls 1 [(0, .ref (mo 0))] := hl
  refine lv_aload_n C.1 C.2.1 dX12_writeBook_0 rfl (lv_at hl 0 rfl) ?_
  refine lv_iconst (v := 0) C.1 C.2.1 dX12_writeBook_1 (by decide) ?_
  refine r_put C hw 0 rfl rfl in_X12 tyX12 tyX12_ok nmX12 6 (by decide) fl_X12_39 rfl rfl rfl rfl (Nat.le_of_ble_eq_true rfl) (w' := moW G mo (mI U 2 0) ++ X) rfl dX12_writeBook_2 (fun H locs hw => ?_)
  refine lv_aload_n C.1 C.2.1 dX12_writeBook_5 rfl (lv_at hl 0 rfl) ?_
  refine lv_iconst (v := 0) C.1 C.2.1 dX12_writeBook_6 (by decide) ?_
  refine r_put C hw 0 rfl rfl in_X12 tyX12 tyX12_ok nmX12 8 (by decide) fl_X12_165 rfl rfl rfl rfl (Nat.le_of_ble_eq_true rfl) (w' := moW G mo (mI (mI U 2 0) 3 0) ++ X) rfl dX12_writeBook_7 (fun H locs hw => ?_)
  replace hw : WH G s (moW G mo (mI (mI U 2 0) 3 0) ++ X) H locs := hw
  refine lv_aload_n C.1 C.2.1 dX12_writeBook_10 rfl (lv_at hl 0 rfl) ?_
  refine lv_iconst (v := 1) C.1 C.2.1 dX12_writeBook_11 (by decide) ?_
  have hf_12 : ((mI (mI U 2 0) 3 0)).2 0 = U.2 0 := rfl
  have hls_12 := @sbL_len (U.2 0) true
  refine r_vv C hw (k12_saysBest hF (mo := mo) (U := (mI (mI U 2 0) 3 0)) (X := X) (by rw [hf_12]; exact hok) (by rw [hf_12]; exact hL) (k := 0) rfl (by (try simp only [List.length_append, List.length_singleton, List.length_cons, List.length_nil]); omega) true) ml_X12_178 yf_X12_saysBest 0 rfl rfl (As := [.int 1]) rfl rfl ⟨Nat.le_of_ble_eq_true rfl, Nat.le_of_ble_eq_true rfl⟩ ⟨Nat.le_of_ble_eq_true rfl, Nat.le_of_ble_eq_true rfl⟩ hl.1 (Nat.le_of_ble_eq_true rfl) dX12_writeBook_12 (fun _ H locs hp_12 hw => ?_)
  rw [hf_12] at hw
  replace hw : WH G s (moW G mo (syU (mI (mI U 2 0) 3 0) 0 (sbL (U.2 0) true)) ++ X) H locs := hw
  refine lv_aload_n C.1 C.2.1 dX12_writeBook_15 rfl (lv_at hl 0 rfl) ?_
  refine lv_bipush (v := 47) C.1 C.2.1 dX12_writeBook_16 (by decide) ?_
  refine r_vv C hw (k12_says hF (mo := mo) (U := (syU (mI (mI U 2 0) 3 0) 0 (sbL (U.2 0) true))) (X := X) (k := (0 + ((sbL (U.2 0) true)).length)) syU_3 (by (try simp only [List.length_append, List.length_singleton, List.length_cons, List.length_nil]); omega) 47) ml_X12_171 yf_X12_says 0 rfl rfl (As := [.int 47]) rfl rfl ⟨Nat.le_of_ble_eq_true rfl, Nat.le_of_ble_eq_true rfl⟩ ⟨Nat.le_of_ble_eq_true rfl, Nat.le_of_ble_eq_true rfl⟩ hl.1 (Nat.le_of_ble_eq_true rfl) dX12_writeBook_18 (fun _ H locs hp_18 hw => ?_)
  rw [syU_app rfl] at hw
  replace hw : WH G s (moW G mo (syU (mI (mI U 2 0) 3 0) 0 ((sbL (U.2 0) true) ++ [47])) ++ X) H locs := hw
  refine lv_aload_n C.1 C.2.1 dX12_writeBook_21 rfl (lv_at hl 0 rfl) ?_
  refine lv_iconst (v := 0) C.1 C.2.1 dX12_writeBook_22 (by decide) ?_
  have hf_23 : ((syU (mI (mI U 2 0) 3 0) 0 ((sbL (U.2 0) true) ++ [47]))).2 0 = U.2 0 := (syU_0 (by decide)).trans rfl
  have hls_23 := @sbL_len (U.2 0) false
  refine r_vv C hw (k12_saysBest hF (mo := mo) (U := (syU (mI (mI U 2 0) 3 0) 0 ((sbL (U.2 0) true) ++ [47]))) (X := X) (by rw [hf_23]; exact hok) (by rw [hf_23]; exact hL) (k := (0 + (((sbL (U.2 0) true) ++ [47])).length)) syU_3 (by (try simp only [List.length_append, List.length_singleton, List.length_cons, List.length_nil]); omega) false) ml_X12_178 yf_X12_saysBest 0 rfl rfl (As := [.int 0]) rfl rfl ⟨Nat.le_of_ble_eq_true rfl, Nat.le_of_ble_eq_true rfl⟩ ⟨Nat.le_of_ble_eq_true rfl, Nat.le_of_ble_eq_true rfl⟩ hl.1 (Nat.le_of_ble_eq_true rfl) dX12_writeBook_23 (fun _ H locs hp_23 hw => ?_)
  rw [hf_23] at hw
  rw [syU_app rfl] at hw
  replace hw : WH G s (moW G mo (syU (mI (mI U 2 0) 3 0) 0 (((sbL (U.2 0) true) ++ [47]) ++ (sbL (U.2 0) false))) ++ X) H locs := hw
  refine lv_aload_n C.1 C.2.1 dX12_writeBook_26 rfl (lv_at hl 0 rfl) ?_
  refine r_get C hw 0 rfl rfl in_X12 8 (by decide) fl_X12_165 rfl (v := .int ((syU (mI (mI U 2 0) 3 0) 0 (((sbL (U.2 0) true) ++ [47]) ++ (sbL (U.2 0) false))).1 3)) rfl dX12_writeBook_27 ?_
  exact r_iret C hw rfl rfl () (syU_3) rfl (Nat.le_of_ble_eq_true rfl) (Nat.le_of_ble_eq_true rfl) dX12_writeBook_30

