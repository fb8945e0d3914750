/-! State: faults and reads -/
def nO (S : SV) : Nat := (S.1 1).toNatClampNeg
def nT (S : SV) : Nat := (S.1 0).toNatClampNeg
/-- the counts are counts -/
def okS (S : SV) : Prop := S.1 1 = nI (nO S) ∧ nO S ≤ 20 ∧ S.1 0 = nI (nT S) ∧ nT S ≤ 6
theorem nO_of {S : SV} {n : Nat} (h : S.1 1 = nI n) (hn : n ≤ 20) : nO S = n := by rw [nO, h, nI_clamp (by omega)]
theorem nT_of {S : SV} {n : Nat} (h : S.1 0 = nI n) (hn : n ≤ 6) : nT S = n := by rw [nT, h, nI_clamp (by omega)]
def frM (S : SV) (x : Int32) : Int32 := rget 6 (S.2.1 0) x - bndM S x (nO S)
def frD (S : SV) (x : Int32) : Int32 := rget 6 (S.2.1 1) x - bndD S x (nO S)
def stF (S : SV) (mo dr : Int32) : Nat := if (inR mo 0 9999 && inR dr 0 999) = true then (if 6 ≤ nT S then 3 else 0) else 2
def ordF (S : SV) (b : Bool) (x pr q : Int32) (mf hi : Bool) : Nat :=
  if hasN x (nT S) = false then 1
  else if (inR pr 1 99 && inR q 1 50 && mf) = false then 2
  else if hi = true then 3
  else if b = true then (if frM S x < pr * q then 4 else 0) else (if frD S x < q then 4 else 0)
def canF (S : SV) (x : Int32) : Nat := match slotF S x (nO S) with
  | none => 5
  | some _ => 0
def pasF (_ : SV) (x : Int32) : Nat := if inR x 1 60 = true then 0 else 2
def opnF (S : SV) : Nat := if S.1 2 = 0 then 0 else 3
def cloF (S : SV) : Nat := if S.1 2 = 0 then 3 else 0
def ncov (S : SV) (k : Nat) : Bool := decide (frM S (nI k) < 0) || !decide (0 ≤ frD S (nI k))
def covS (S : SV) : Bool := (fnd (ncov S) (nT S)).isNone

set_option maxHeartbeats 4000000 in
set_option maxRecDepth 100000 in
theorem k9_stallFault {l : Launch} {G : Gx} (hF : SF l G) {a : Nat → Nat} {S : SV} {X : va_W} (ok : okS S) (mo dr : Int32) : ME l G yX9_stallFault cX9_stallFault 3 (.object "DropMarket$Fault") 1 0 0 [.ref (a 0), .int mo, .int dr] (stW G a S ++ X) G.2.2.2.1 (fun r (_ : Unit) => r = some (stF S mo dr)) (fun _ : Unit => stW G a S ++ X) := by
  refine mt_of hF (by decide) (Nat.le_of_ble_eq_true rfl) ?_
  intro p e s m below meth c C hin ls hl H locs hw
  have hl : lv_has ls 3 [(0, .ref (a 0)), (1, .int mo), (2, .int dr)] := hl
  refine lv_iload_n C.1 C.2.1 dX9_stallFault_0 rfl (lv_at hl 1 rfl) ?_
  refine lv_iconst (v := 0) C.1 C.2.1 dX9_stallFault_1 (by decide) ?_
  refine lv_sipush (v := 9999) C.1 C.2.1 dX9_stallFault_2 (by decide) ?_
  refine r_nsi C hw (k11_isWithin hF (X := stW G a S ++ X) mo 0 9999) mn_X9_49 yf_X11_isWithin (As := [.int mo, .int 0, .int 9999]) rfl rfl ⟨Nat.le_of_ble_eq_true rfl, Nat.le_of_ble_eq_true rfl⟩ ⟨Nat.le_of_ble_eq_true rfl, Nat.le_of_ble_eq_true rfl⟩ hl.1 (Nat.le_of_ble_eq_true rfl) dX9_stallFault_5 (fun r_5 _ H locs hp_5 hw => ?_)
  obtain rfl : r_5 = bI (inR mo 0 9999) := hp_5
  replace hw : WH G s (stW G a S ++ X) H locs := hw
  refine lv_if_eq (tgt := 22) C.1 C.2.1 dX9_stallFault_8 (by decide) (fun c_8 => ?_) (fun c_8 => ?_)
  · have b_8 := bI_eq0.mp c_8
    refine r_getsF C hw 2 (by decide) fl_X9_53 dX9_stallFault_22 ?_
    exact r_eret C hw (v := some 2) (ad := G.2.2.2.1) rfl (Or.inl ⟨_, rfl⟩) () (by simp [stF, b_8]) rfl (Nat.le_of_ble_eq_true rfl) (Nat.le_of_ble_eq_true rfl) dX9_stallFault_25
  · have b_8 := bI_ne0.mp c_8
    refine lv_iload_n C.1 C.2.1 dX9_stallFault_11 rfl (lv_at hl 2 rfl) ?_
    refine lv_iconst (v := 0) C.1 C.2.1 dX9_stallFault_12 (by decide) ?_
    refine lv_sipush (v := 999) C.1 C.2.1 dX9_stallFault_13 (by decide) ?_
    refine r_nsi C hw (k11_isWithin hF (X := stW G a S ++ X) dr 0 999) mn_X9_49 yf_X11_isWithin (As := [.int dr, .int 0, .int 999]) rfl rfl ⟨Nat.le_of_ble_eq_true rfl, Nat.le_of_ble_eq_true rfl⟩ ⟨Nat.le_of_ble_eq_true rfl, Nat.le_of_ble_eq_true rfl⟩ hl.1 (Nat.le_of_ble_eq_true rfl) dX9_stallFault_16 (fun r_16 _ H locs hp_16 hw => ?_)
    obtain rfl : r_16 = bI (inR dr 0 999) := hp_16
    replace hw : WH G s (stW G a S ++ X) H locs := hw
    refine lv_if_ne (tgt := 26) C.1 C.2.1 dX9_stallFault_19 (by decide) (fun c_19 => ?_) (fun c_19 => ?_)
    · have b_19 := bI_ne0.mp c_19
      refine lv_aload_n C.1 C.2.1 dX9_stallFault_26 rfl (lv_at hl 0 rfl) ?_
      refine r_get C hw 0 rfl rfl in_X9 0 (by decide) fl_X9_12 rfl (v := .ref (a 1)) rfl dX9_stallFault_27 ?_
      refine r_vi C hw (k8_isFull hF (a := a) (S := S) (X := X) (nt := nT S) ok.2.2.1 ok.2.2.2) ml_X9_59 yf_X8_isFull 1 rfl rfl (As := []) rfl rfl ⟨Nat.le_of_ble_eq_true rfl, Nat.le_of_ble_eq_true rfl⟩ ⟨Nat.le_of_ble_eq_true rfl, Nat.le_of_ble_eq_true rfl⟩ hl.1 (Nat.le_of_ble_eq_true rfl) dX9_stallFault_30 (fun r_30 _ H locs hp_30 hw => ?_)
      obtain rfl : r_30 = bI (decide (6 ≤ nT S)) := hp_30
      replace hw : WH G s (stW G a S ++ X) H locs := hw
      refine lv_if_eq (tgt := 42) C.1 C.2.1 dX9_stallFault_33 (by decide) (fun c_33 => ?_) (fun c_33 => ?_)
      · have b_33 := bI_eq0.mp c_33
        refine r_getsF C hw 0 (by decide) fl_X9_66 dX9_stallFault_42 ?_
        exact r_eret C hw (v := some 0) (ad := G.2.2.2.1) rfl (Or.inl ⟨_, rfl⟩) () (by have := b_33; simp only [decide_eq_true_eq, decide_eq_false_iff_not] at this; simp [stF, b_8, b_19]; omega) rfl (Nat.le_of_ble_eq_true rfl) (Nat.le_of_ble_eq_true rfl) dX9_stallFault_45
      · have b_33 := bI_ne0.mp c_33
        refine r_getsF C hw 3 (by decide) fl_X9_63 dX9_stallFault_36 ?_
        refine lv_goto (tgt := 45) C.1 C.2.1 dX9_stallFault_39 (by decide) ?_
        exact r_eret C hw (v := some 3) (ad := G.2.2.2.1) rfl (Or.inl ⟨_, rfl⟩) () (by have := b_33; simp only [decide_eq_true_eq, decide_eq_false_iff_not] at this; simp [stF, b_8, b_19]; omega) rfl (Nat.le_of_ble_eq_true rfl) (Nat.le_of_ble_eq_true rfl) dX9_stallFault_45
    · have b_19 := bI_eq0.mp c_19
      refine r_getsF C hw 2 (by decide) fl_X9_53 dX9_stallFault_22 ?_
      exact r_eret C hw (v := some 2) (ad := G.2.2.2.1) rfl (Or.inl ⟨_, rfl⟩) () (by simp [stF, b_8, b_19]) rfl (Nat.le_of_ble_eq_true rfl) (Nat.le_of_ble_eq_true rfl) dX9_stallFault_25

set_option maxHeartbeats 4000000 in
set_option maxRecDepth 100000 in
theorem k9_freeMoney {l : Launch} {G : Gx} (hF : SF l G) {a : Nat → Nat} {S : SV} {X : va_W} (ok : okS S) (x : Int32) : MI l G yX9_freeMoney cX9_freeMoney 2 .int 3 0 0 [.ref (a 0), .int x] (stW G a S ++ X) (fun r _ => r = frM S x) (fun _ : Unit => stW G a S ++ X) := by
  refine mt_of hF (by decide) (Nat.le_of_ble_eq_true rfl) ?_
  intro p e s m below meth c C hin ls hl H locs hw
  have hl : lv_has ls 2 [(0, .ref (a 0)), (1, .int x)] := hl
  refine lv_aload_n C.1 C.2.1 dX9_freeMoney_0 rfl (lv_at hl 0 rfl) ?_
  refine r_get C hw 0 rfl rfl in_X9 0 (by decide) fl_X9_12 rfl (v := .ref (a 1)) rfl dX9_freeMoney_1 ?_
  refine r_get C hw 1 rfl rfl in_X8 0 (by decide) fl_X9_92 rfl (v := .ref (a 2)) rfl dX9_freeMoney_4 ?_
  refine lv_iload_n C.1 C.2.1 dX9_freeMoney_7 rfl (lv_at hl 1 rfl) ?_
  refine r_vi C hw (k7_get hF (strow_0 G a S X) (by decide) (strow_e G a S X 0) x) ml_X9_96 yf_X7_get 2 rfl rfl (As := [.int x]) rfl rfl ⟨Nat.le_of_ble_eq_true rfl, Nat.le_of_ble_eq_true rfl⟩ ⟨Nat.le_of_ble_eq_true rfl, Nat.le_of_ble_eq_true rfl⟩ hl.1 (Nat.le_of_ble_eq_true rfl) dX9_freeMoney_8 (fun r_8 _ H locs hp_8 hw => ?_)
  obtain rfl : r_8 = rget 6 (S.2.1 0) x := hp_8
  replace hw : WH G s (stW G a S ++ X) H locs := hw
  refine lv_aload_n C.1 C.2.1 dX9_freeMoney_11 rfl (lv_at hl 0 rfl) ?_
  refine r_get C hw 0 rfl rfl in_X9 1 (by decide) fl_X9_21 rfl (v := .ref (a 6)) rfl dX9_freeMoney_12 ?_
  refine lv_iload_n C.1 C.2.1 dX9_freeMoney_15 rfl (lv_at hl 1 rfl) ?_
  refine r_vi C hw (k1_boundMoney hF (a := a) (S := S) (X := X) (n := nO S) ok.1 ok.2.1 x) ml_X9_101 yf_X1_boundMoney 6 rfl rfl (As := [.int x]) rfl rfl ⟨Nat.le_of_ble_eq_true rfl, Nat.le_of_ble_eq_true rfl⟩ ⟨Nat.le_of_ble_eq_true rfl, Nat.le_of_ble_eq_true rfl⟩ hl.1 (Nat.le_of_ble_eq_true rfl) dX9_freeMoney_16 (fun r_16 _ H locs hp_16 hw => ?_)
  obtain rfl : r_16 = bndM S x (nO S) := hp_16
  replace hw : WH G s (stW G a S ++ X) H locs := hw
  refine lv_isub C.1 C.2.1 dX9_freeMoney_19 ?_
  exact r_iret C hw rfl rfl () (rfl) rfl (Nat.le_of_ble_eq_true rfl) (Nat.le_of_ble_eq_true rfl) dX9_freeMoney_20

set_option maxHeartbeats 4000000 in
set_option maxRecDepth 100000 in
theorem k9_freeDrops {l : Launch} {G : Gx} (hF : SF l G) {a : Nat → Nat} {S : SV} {X : va_W} (ok : okS S) (x : Int32) : MI l G yX9_freeDrops cX9_freeDrops 2 .int 3 0 0 [.ref (a 0), .int x] (stW G a S ++ X) (fun r _ => r = frD S x) (fun _ : Unit => stW G a S ++ X) := by
  refine mt_of hF (by decide) (Nat.le_of_ble_eq_true rfl) ?_
  intro p e s m below meth c C hin ls hl H locs hw
  have hl : lv_has ls 2 [(0, .ref (a 0)), (1, .int x)] := hl
  refine lv_aload_n C.1 C.2.1 dX9_freeDrops_0 rfl (lv_at hl 0 rfl) ?_
  refine r_get C hw 0 rfl rfl in_X9 0 (by decide) fl_X9_12 rfl (v := .ref (a 1)) rfl dX9_freeDrops_1 ?_
  refine r_get C hw 1 rfl rfl in_X8 1 (by decide) fl_X9_104 rfl (v := .ref (a 4)) rfl dX9_freeDrops_4 ?_
  refine lv_iload_n C.1 C.2.1 dX9_freeDrops_7 rfl (lv_at hl 1 rfl) ?_
  refine r_vi C hw (k7_get hF (strow_1 G a S X) (by decide) (strow_e G a S X 1) x) ml_X9_96 yf_X7_get 4 rfl rfl (As := [.int x]) rfl rfl ⟨Nat.le_of_ble_eq_true rfl, Nat.le_of_ble_eq_true rfl⟩ ⟨Nat.le_of_ble_eq_true rfl, Nat.le_of_ble_eq_true rfl⟩ hl.1 (Nat.le_of_ble_eq_true rfl) dX9_freeDrops_8 (fun r_8 _ H locs hp_8 hw => ?_)
  obtain rfl : r_8 = rget 6 (S.2.1 1) x := hp_8
  replace hw : WH G s (stW G a S ++ X) H locs := hw
  refine lv_aload_n C.1 C.2.1 dX9_freeDrops_11 rfl (lv_at hl 0 rfl) ?_
  refine r_get C hw 0 rfl rfl in_X9 1 (by decide) fl_X9_21 rfl (v := .ref (a 6)) rfl dX9_freeDrops_12 ?_
  refine lv_iload_n C.1 C.2.1 dX9_freeDrops_15 rfl (lv_at hl 1 rfl) ?_
  refine r_vi C hw (k1_boundDrops hF (a := a) (S := S) (X := X) (n := nO S) ok.1 ok.2.1 x) ml_X9_107 yf_X1_boundDrops 6 rfl rfl (As := [.int x]) rfl rfl ⟨Nat.le_of_ble_eq_true rfl, Nat.le_of_ble_eq_true rfl⟩ ⟨Nat.le_of_ble_eq_true rfl, Nat.le_of_ble_eq_true rfl⟩ hl.1 (Nat.le_of_ble_eq_true rfl) dX9_freeDrops_16 (fun r_16 _ H locs hp_16 hw => ?_)
  obtain rfl : r_16 = bndD S x (nO S) := hp_16
  replace hw : WH G s (stW G a S ++ X) H locs := hw
  refine lv_isub C.1 C.2.1 dX9_freeDrops_19 ?_
  exact r_iret C hw rfl rfl () (rfl) rfl (Nat.le_of_ble_eq_true rfl) (Nat.le_of_ble_eq_true rfl) dX9_freeDrops_20

set_option maxHeartbeats 4000000 in
set_option maxRecDepth 100000 in
theorem k9_orderFault {l : Launch} {G : Gx} (hF : SF l G) {a : Nat → Nat} {S : SV} {X : va_W} (ok : okS S) (b : Bool) (x pr q : Int32) (mf hi : Bool) : ME l G yX9_orderFault cX9_orderFault 8 (.object "DropMarket$Fault") 4 0 0 [.ref (a 0), .int (bI b), .int x, .int pr, .int q, .int (bI mf), .int (bI hi)] (stW G a S ++ X) G.2.2.2.1 (fun r (_ : Unit) => r = some (ordF S b x pr q mf hi)) (fun _ : Unit => stW G a S ++ X) := by
  refine mt_of hF (by decide) (Nat.le_of_ble_eq_true rfl) ?_
  intro p e s m below meth c C hin ls hl H locs hw
  have hl : lv_has ls 8 [(0, .ref (a 0)), (1, .int (bI b)), (2, .int x), (3, .int pr), (4, .int q), (5, .int (bI mf)), (6, .int (bI hi))] := hl
  refine lv_aload_n C.1 C.2.1 dX9_orderFault_0 rfl (lv_at hl 0 rfl) ?_
  refine r_get C hw 0 rfl rfl in_X9 0 (by decide) fl_X9_12 rfl (v := .ref (a 1)) rfl dX9_orderFault_1 ?_
  refine lv_iload_n C.1 C.2.1 dX9_orderFault_4 rfl (lv_at hl 2 rfl) ?_
  refine r_vi C hw (k8_has hF (a := a) (S := S) (X := X) (nt := nT S) ok.2.2.1 ok.2.2.2 x) ml_X9_69 yf_X8_has 1 rfl rfl (As := [.int x]) rfl rfl ⟨Nat.le_of_ble_eq_true rfl, Nat.le_of_ble_eq_true rfl⟩ ⟨Nat.le_of_ble_eq_true rfl, Nat.le_of_ble_eq_true rfl⟩ hl.1 (Nat.le_of_ble_eq_true rfl) dX9_orderFault_5 (fun r_5 _ H locs hp_5 hw => ?_)
  obtain rfl : r_5 = bI (hasN x (nT S)) := hp_5
  replace hw : WH G s (stW G a S ++ X) H locs := hw
  refine lv_if_ne (tgt := 15) C.1 C.2.1 dX9_orderFault_8 (by decide) (fun c_8 => ?_) (fun c_8 => ?_)
  · have b_8 := bI_ne0.mp c_8
    refine lv_iload_n C.1 C.2.1 dX9_orderFault_15 rfl (lv_at hl 3 rfl) ?_
    refine lv_iconst (v := 1) C.1 C.2.1 dX9_orderFault_16 (by decide) ?_
    refine lv_bipush (v := 99) C.1 C.2.1 dX9_orderFault_17 (by decide) ?_
    refine r_nsi C hw (k11_isWithin hF (X := stW G a S ++ X) pr 1 99) mn_X9_49 yf_X11_isWithin (As := [.int pr, .int 1, .int 99]) rfl rfl ⟨Nat.le_of_ble_eq_true rfl, Nat.le_of_ble_eq_true rfl⟩ ⟨Nat.le_of_ble_eq_true rfl, Nat.le_of_ble_eq_true rfl⟩ hl.1 (Nat.le_of_ble_eq_true rfl) dX9_orderFault_19 (fun r_19 _ H locs hp_19 hw => ?_)
    obtain rfl : r_19 = bI (inR pr 1 99) := hp_19
    replace hw : WH G s (stW G a S ++ X) H locs := hw
    refine lv_if_eq (tgt := 41) C.1 C.2.1 dX9_orderFault_22 (by decide) (fun c_22 => ?_) (fun c_22 => ?_)
    · have b_22 := bI_eq0.mp c_22
      refine r_getsF C hw 2 (by decide) fl_X9_53 dX9_orderFault_41 ?_
      exact r_eret C hw (v := some 2) (ad := G.2.2.2.1) rfl (Or.inl ⟨_, rfl⟩) () (by simp [ordF, b_8, b_22]) rfl (Nat.le_of_ble_eq_true rfl) (Nat.le_of_ble_eq_true rfl) dX9_orderFault_44
    · have b_22 := bI_ne0.mp c_22
      refine lv_iload C.1 C.2.1 dX9_orderFault_25 (lv_at hl 4 rfl) ?_
      refine lv_iconst (v := 1) C.1 C.2.1 dX9_orderFault_27 (by decide) ?_
      refine lv_bipush (v := 50) C.1 C.2.1 dX9_orderFault_28 (by decide) ?_
      refine r_nsi C hw (k11_isWithin hF (X := stW G a S ++ X) q 1 50) mn_X9_49 yf_X11_isWithin (As := [.int q, .int 1, .int 50]) rfl rfl ⟨Nat.le_of_ble_eq_true rfl, Nat.le_of_ble_eq_true rfl⟩ ⟨Nat.le_of_ble_eq_true rfl, Nat.le_of_ble_eq_true rfl⟩ hl.1 (Nat.le_of_ble_eq_true rfl) dX9_orderFault_30 (fun r_30 _ H locs hp_30 hw => ?_)
      obtain rfl : r_30 = bI (inR q 1 50) := hp_30
      replace hw : WH G s (stW G a S ++ X) H locs := hw
      refine lv_if_eq (tgt := 41) C.1 C.2.1 dX9_orderFault_33 (by decide) (fun c_33 => ?_) (fun c_33 => ?_)
      · have b_33 := bI_eq0.mp c_33
        refine r_getsF C hw 2 (by decide) fl_X9_53 dX9_orderFault_41 ?_
        exact r_eret C hw (v := some 2) (ad := G.2.2.2.1) rfl (Or.inl ⟨_, rfl⟩) () (by simp [ordF, b_8, b_22, b_33]) rfl (Nat.le_of_ble_eq_true rfl) (Nat.le_of_ble_eq_true rfl) dX9_orderFault_44
      · have b_33 := bI_ne0.mp c_33
        refine lv_iload C.1 C.2.1 dX9_orderFault_36 (lv_at hl 5 rfl) ?_
        refine lv_if_ne (tgt := 45) C.1 C.2.1 dX9_orderFault_38 (by decide) (fun c_38 => ?_) (fun c_38 => ?_)
        · have b_38 := bI_ne0.mp c_38
          refine lv_iload C.1 C.2.1 dX9_orderFault_45 (lv_at hl 6 rfl) ?_
          refine lv_if_eq (tgt := 54) C.1 C.2.1 dX9_orderFault_47 (by decide) (fun c_47 => ?_) (fun c_47 => ?_)
          · have b_47 := bI_eq0.mp c_47
            refine lv_iload_n C.1 C.2.1 dX9_orderFault_54 rfl (lv_at hl 1 rfl) ?_
            refine lv_if_eq (tgt := 78) C.1 C.2.1 dX9_orderFault_55 (by decide) (fun c_55 => ?_) (fun c_55 => ?_)
            · have b_55 := bI_eq0.mp c_55
              refine lv_aload_n C.1 C.2.1 dX9_orderFault_78 rfl (lv_at hl 0 rfl) ?_
              refine lv_iload_n C.1 C.2.1 dX9_orderFault_79 rfl (lv_at hl 2 rfl) ?_
              refine r_vi C hw (k9_freeDrops hF (a := a) (S := S) (X := X) ok x) ml_X9_80 yf_X9_freeDrops 0 rfl rfl (As := [.int x]) rfl rfl ⟨Nat.le_of_ble_eq_true rfl, Nat.le_of_ble_eq_true rfl⟩ ⟨Nat.le_of_ble_eq_true rfl, Nat.le_of_ble_eq_true rfl⟩ hl.1 (Nat.le_of_ble_eq_true rfl) dX9_orderFault_80 (fun r_80 _ H locs hp_80 hw => ?_)
              obtain rfl : r_80 = frD S x := hp_80
              replace hw : WH G s (stW G a S ++ X) H locs := hw
              refine lv_iload C.1 C.2.1 dX9_orderFault_83 (lv_at hl 4 rfl) ?_
              refine lv_icmp_lt (tgt := 92) C.1 C.2.1 dX9_orderFault_85 (by decide) (fun c_85 => ?_) (fun c_85 => ?_)
              · refine lv_iconst (v := 0) C.1 C.2.1 dX9_orderFault_92 (by decide) ?_
                refine lv_istore (lv' := [(7, .int 0), (0, .ref (a 0)), (1, .int (bI b)), (2, .int x), (3, .int pr), (4, .int q), (5, .int (bI mf)), (6, .int (bI hi))]) C.1 C.2.1 dX9_orderFault_93 hl (by decide) rfl (fun ls hl => ?_)
                refine lv_iload C.1 C.2.1 dX9_orderFault_95 (lv_at hl 0 rfl) ?_
                refine lv_if_eq (tgt := 106) C.1 C.2.1 dX9_orderFault_97 (by decide) (fun c_97 => ?_) (fun c_97 => absurd (rfl) c_97)
                refine r_getsF C hw 4 (by decide) fl_X9_83 dX9_orderFault_106 ?_
                exact r_eret C hw (v := some 4) (ad := G.2.2.2.1) rfl (Or.inl ⟨_, rfl⟩) () (by simp [ordF, b_8, b_22, b_33, b_38, b_47, b_55, c_85]) rfl (Nat.le_of_ble_eq_true rfl) (Nat.le_of_ble_eq_true rfl) dX9_orderFault_109
              · refine lv_iconst (v := 1) C.1 C.2.1 dX9_orderFault_88 (by decide) ?_
                refine lv_goto (tgt := 93) C.1 C.2.1 dX9_orderFault_89 (by decide) ?_
                refine lv_istore (lv' := [(7, .int 1), (0, .ref (a 0)), (1, .int (bI b)), (2, .int x), (3, .int pr), (4, .int q), (5, .int (bI mf)), (6, .int (bI hi))]) C.1 C.2.1 dX9_orderFault_93 hl (by decide) rfl (fun ls hl => ?_)
                refine lv_iload C.1 C.2.1 dX9_orderFault_95 (lv_at hl 0 rfl) ?_
                refine lv_if_eq (tgt := 106) C.1 C.2.1 dX9_orderFault_97 (by decide) (fun c_97 => absurd c_97 (by decide)) (fun c_97 => ?_)
                refine r_getsF C hw 0 (by decide) fl_X9_66 dX9_orderFault_100 ?_
                refine lv_goto (tgt := 109) C.1 C.2.1 dX9_orderFault_103 (by decide) ?_
                exact r_eret C hw (v := some 0) (ad := G.2.2.2.1) rfl (Or.inl ⟨_, rfl⟩) () (by simp [ordF, b_8, b_22, b_33, b_38, b_47, b_55, c_85]) rfl (Nat.le_of_ble_eq_true rfl) (Nat.le_of_ble_eq_true rfl) dX9_orderFault_109
            · have b_55 := bI_ne0.mp c_55
              refine lv_aload_n C.1 C.2.1 dX9_orderFault_58 rfl (lv_at hl 0 rfl) ?_
              refine lv_iload_n C.1 C.2.1 dX9_orderFault_59 rfl (lv_at hl 2 rfl) ?_
              refine r_vi C hw (k9_freeMoney hF (a := a) (S := S) (X := X) ok x) ml_X9_76 yf_X9_freeMoney 0 rfl rfl (As := [.int x]) rfl rfl ⟨Nat.le_of_ble_eq_true rfl, Nat.le_of_ble_eq_true rfl⟩ ⟨Nat.le_of_ble_eq_true rfl, Nat.le_of_ble_eq_true rfl⟩ hl.1 (Nat.le_of_ble_eq_true rfl) dX9_orderFault_60 (fun r_60 _ H locs hp_60 hw => ?_)
              obtain rfl : r_60 = frM S x := hp_60
              replace hw : WH G s (stW G a S ++ X) H locs := hw
              refine lv_iload_n C.1 C.2.1 dX9_orderFault_63 rfl (lv_at hl 3 rfl) ?_
              refine lv_iload C.1 C.2.1 dX9_orderFault_64 (lv_at hl 4 rfl) ?_
              refine lv_imul C.1 C.2.1 dX9_orderFault_66 ?_
              refine lv_icmp_lt (tgt := 74) C.1 C.2.1 dX9_orderFault_67 (by decide) (fun c_67 => ?_) (fun c_67 => ?_)
              · refine lv_iconst (v := 0) C.1 C.2.1 dX9_orderFault_74 (by decide) ?_
                refine lv_goto (tgt := 93) C.1 C.2.1 dX9_orderFault_75 (by decide) ?_
                refine lv_istore (lv' := [(7, .int 0), (0, .ref (a 0)), (1, .int (bI b)), (2, .int x), (3, .int pr), (4, .int q), (5, .int (bI mf)), (6, .int (bI hi))]) C.1 C.2.1 dX9_orderFault_93 hl (by decide) rfl (fun ls hl => ?_)
                refine lv_iload C.1 C.2.1 dX9_orderFault_95 (lv_at hl 0 rfl) ?_
                refine lv_if_eq (tgt := 106) C.1 C.2.1 dX9_orderFault_97 (by decide) (fun c_97 => ?_) (fun c_97 => absurd (rfl) c_97)
                refine r_getsF C hw 4 (by decide) fl_X9_83 dX9_orderFault_106 ?_
                exact r_eret C hw (v := some 4) (ad := G.2.2.2.1) rfl (Or.inl ⟨_, rfl⟩) () (by simp [ordF, b_8, b_22, b_33, b_38, b_47, b_55, c_67]) rfl (Nat.le_of_ble_eq_true rfl) (Nat.le_of_ble_eq_true rfl) dX9_orderFault_109
              · refine lv_iconst (v := 1) C.1 C.2.1 dX9_orderFault_70 (by decide) ?_
                refine lv_goto (tgt := 93) C.1 C.2.1 dX9_orderFault_71 (by decide) ?_
                refine lv_istore (lv' := [(7, .int 1), (0, .ref (a 0)), (1, .int (bI b)), (2, .int x), (3, .int pr), (4, .int q), (5, .int (bI mf)), (6, .int (bI hi))]) C.1 C.2.1 dX9_orderFault_93 hl (by decide) rfl (fun ls hl => ?_)
                refine lv_iload C.1 C.2.1 dX9_orderFault_95 (lv_at hl 0 rfl) ?_
                refine lv_if_eq (tgt := 106) C.1 C.2.1 dX9_orderFault_97 (by decide) (fun c_97 => absurd c_97 (by decide)) (fun c_97 => ?_)
                refine r_getsF C hw 0 (by decide) fl_X9_66 dX9_orderFault_100 ?_
                refine lv_goto (tgt := 109) C.1 C.2.1 dX9_orderFault_103 (by decide) ?_
                exact r_eret C hw (v := some 0) (ad := G.2.2.2.1) rfl (Or.inl ⟨_, rfl⟩) () (by simp [ordF, b_8, b_22, b_33, b_38, b_47, b_55, c_67]) rfl (Nat.le_of_ble_eq_true rfl) (Nat.le_of_ble_eq_true rfl) dX9_orderFault_109
          · have b_47 := bI_ne0.mp c_47
            refine r_getsF C hw 3 (by decide) fl_X9_63 dX9_orderFault_50 ?_
            exact r_eret C hw (v := some 3) (ad := G.2.2.2.1) rfl (Or.inl ⟨_, rfl⟩) () (by simp [ordF, b_8, b_22, b_33, b_38, b_47]) rfl (Nat.le_of_ble_eq_true rfl) (Nat.le_of_ble_eq_true rfl) dX9_orderFault_53
        · have b_38 := bI_eq0.mp c_38
          refine r_getsF C hw 2 (by decide) fl_X9_53 dX9_orderFault_41 ?_
          exact r_eret C hw (v := some 2) (ad := G.2.2.2.1) rfl (Or.inl ⟨_, rfl⟩) () (by simp [ordF, b_8, b_22, b_33, b_38]) rfl (Nat.le_of_ble_eq_true rfl) (Nat.le_of_ble_eq_true rfl) dX9_orderFault_44
  · have b_8 := bI_eq0.mp c_8
    refine r_getsF C hw 1 (by decide) fl_X9_73 dX9_orderFault_11 ?_
    exact r_eret C hw (v := some 1) (ad := G.2.2.2.1) rfl (Or.inl ⟨_, rfl⟩) () (by simp [ordF, b_8]) rfl (Nat.le_of_ble_eq_true rfl) (Nat.le_of_ble_eq_true rfl) dX9_orderFault_14

set_option maxHeartbeats 4000000 in
set_option maxRecDepth 100000 in
theorem k9_cancelFault {l : Launch} {G : Gx} (hF : SF l G) {a : Nat → Nat} {S : SV} {X : va_W} (ok : okS S) (x : Int32) : ME l G yX9_cancelFault cX9_cancelFault 2 (.object "DropMarket$Fault") 2 0 0 [.ref (a 0), .int x] (stW G a S ++ X) G.2.2.2.1 (fun r (_ : Unit) => r = some (canF S x)) (fun _ : Unit => stW G a S ++ X) := by
  refine mt_of hF (by decide) (Nat.le_of_ble_eq_true rfl) ?_
  intro p e s m below meth c C hin ls hl H locs hw
  have hl : lv_has ls 2 [(0, .ref (a 0)), (1, .int x)] := hl
  refine lv_aload_n C.1 C.2.1 dX9_cancelFault_0 rfl (lv_at hl 0 rfl) ?_
  refine r_get C hw 0 rfl rfl in_X9 1 (by decide) fl_X9_21 rfl (v := .ref (a 6)) rfl dX9_cancelFault_1 ?_
  refine lv_iload_n C.1 C.2.1 dX9_cancelFault_4 rfl (lv_at hl 1 rfl) ?_
  refine r_vi C hw (k1_slotOf hF (a := a) (S := S) (X := X) (n := nO S) ok.1 ok.2.1 x) ml_X9_86 yf_X1_slotOf 6 rfl rfl (As := [.int x]) rfl rfl ⟨Nat.le_of_ble_eq_true rfl, Nat.le_of_ble_eq_true rfl⟩ ⟨Nat.le_of_ble_eq_true rfl, Nat.le_of_ble_eq_true rfl⟩ hl.1 (Nat.le_of_ble_eq_true rfl) dX9_cancelFault_5 (fun r_5 _ H locs hp_5 hw => ?_)
  obtain ⟨o_5, ho_5⟩ : ∃ o, o = slotF S x (nO S) := ⟨_, rfl⟩
  obtain rfl : r_5 = oI o_5 := by rw [hp_5, ho_5]
  replace hw : WH G s (stW G a S ++ X) H locs := hw
  refine lv_iconst (v := -1) C.1 C.2.1 dX9_cancelFault_8 (by decide) ?_
  refine lv_icmp_ne (tgt := 18) C.1 C.2.1 dX9_cancelFault_9 (by decide) (fun c_9 => ?_) (fun c_9 => ?_)
  · refine r_getsF C hw 0 (by decide) fl_X9_66 dX9_cancelFault_18 ?_
    exact r_eret C hw (v := some 0) (ad := G.2.2.2.1) rfl (Or.inl ⟨_, rfl⟩) () (by cases o_5 with | none => exact absurd rfl c_9 | some q => rw [canF, ← ho_5]) rfl (Nat.le_of_ble_eq_true rfl) (Nat.le_of_ble_eq_true rfl) dX9_cancelFault_21
  · refine r_getsF C hw 5 (by decide) fl_X9_89 dX9_cancelFault_12 ?_
    refine lv_goto (tgt := 21) C.1 C.2.1 dX9_cancelFault_15 (by decide) ?_
    exact r_eret C hw (v := some 5) (ad := G.2.2.2.1) rfl (Or.inl ⟨_, rfl⟩) () (by cases o_5 with | none => rw [canF, ← ho_5] | some q => exact absurd c_9 (nI_ne1 (by have := (fnd_lt ho_5.symm).1; have := ok.2.1; omega))) rfl (Nat.le_of_ble_eq_true rfl) (Nat.le_of_ble_eq_true rfl) dX9_cancelFault_21

set_option maxHeartbeats 4000000 in
set_option maxRecDepth 100000 in
theorem k9_passFault {l : Launch} {G : Gx} (hF : SF l G) {a : Nat → Nat} {S : SV} {X : va_W} (ok : okS S) (x : Int32) : ME l G yX9_passFault cX9_passFault 2 (.object "DropMarket$Fault") 1 0 0 [.ref (a 0), .int x] (stW G a S ++ X) G.2.2.2.1 (fun r (_ : Unit) => r = some (pasF S x)) (fun _ : Unit => stW G a S ++ X) := by
  refine mt_of hF (by decide) (Nat.le_of_ble_eq_true rfl) ?_
  intro p e s m below meth c C hin ls hl H locs hw
  have hl : lv_has ls 2 [(0, .ref (a 0)), (1, .int x)] := hl
  refine lv_iload_n C.1 C.2.1 dX9_passFault_0 rfl (lv_at hl 1 rfl) ?_
  refine lv_iconst (v := 1) C.1 C.2.1 dX9_passFault_1 (by decide) ?_
  refine lv_bipush (v := 60) C.1 C.2.1 dX9_passFault_2 (by decide) ?_
  refine r_nsi C hw (k11_isWithin hF (X := stW G a S ++ X) x 1 60) mn_X9_49 yf_X11_isWithin (As := [.int x, .int 1, .int 60]) rfl rfl ⟨Nat.le_of_ble_eq_true rfl, Nat.le_of_ble_eq_true rfl⟩ ⟨Nat.le_of_ble_eq_true rfl, Nat.le_of_ble_eq_true rfl⟩ hl.1 (Nat.le_of_ble_eq_true rfl) dX9_passFault_4 (fun r_4 _ H locs hp_4 hw => ?_)
  obtain rfl : r_4 = bI (inR x 1 60) := hp_4
  replace hw : WH G s (stW G a S ++ X) H locs := hw
  refine lv_if_eq (tgt := 16) C.1 C.2.1 dX9_passFault_7 (by decide) (fun c_7 => ?_) (fun c_7 => ?_)
  · have b_7 := bI_eq0.mp c_7
    refine r_getsF C hw 2 (by decide) fl_X9_53 dX9_passFault_16 ?_
    exact r_eret C hw (v := some 2) (ad := G.2.2.2.1) rfl (Or.inl ⟨_, rfl⟩) () (by simp [pasF, b_7]) rfl (Nat.le_of_ble_eq_true rfl) (Nat.le_of_ble_eq_true rfl) dX9_passFault_19
  · have b_7 := bI_ne0.mp c_7
    refine r_getsF C hw 0 (by decide) fl_X9_66 dX9_passFault_10 ?_
    refine lv_goto (tgt := 19) C.1 C.2.1 dX9_passFault_13 (by decide) ?_
    exact r_eret C hw (v := some 0) (ad := G.2.2.2.1) rfl (Or.inl ⟨_, rfl⟩) () (by simp [pasF, b_7]) rfl (Nat.le_of_ble_eq_true rfl) (Nat.le_of_ble_eq_true rfl) dX9_passFault_19

set_option maxHeartbeats 4000000 in
set_option maxRecDepth 100000 in
theorem k9_openFault {l : Launch} {G : Gx} (hF : SF l G) {a : Nat → Nat} {S : SV} {X : va_W} (ok : okS S) : ME l G yX9_openFault cX9_openFault 1 (.object "DropMarket$Fault") 0 0 0 [.ref (a 0)] (stW G a S ++ X) G.2.2.2.1 (fun r (_ : Unit) => r = some (opnF S)) (fun _ : Unit => stW G a S ++ X) := by
  refine mt_of hF (by decide) (Nat.le_of_ble_eq_true rfl) ?_
  intro p e s m below meth c C hin ls hl H locs hw
  have hl : lv_has ls 1 [(0, .ref (a 0))] := hl
  refine lv_aload_n C.1 C.2.1 dX9_openFault_0 rfl (lv_at hl 0 rfl) ?_
  refine r_get C hw 0 rfl rfl in_X9 2 (by decide) fl_X9_25 rfl (v := .int (S.1 2)) rfl dX9_openFault_1 ?_
  refine lv_if_eq (tgt := 13) C.1 C.2.1 dX9_openFault_4 (by decide) (fun c_4 => ?_) (fun c_4 => ?_)
  · refine r_getsF C hw 0 (by decide) fl_X9_66 dX9_openFault_13 ?_
    exact r_eret C hw (v := some 0) (ad := G.2.2.2.1) rfl (Or.inl ⟨_, rfl⟩) () (by simp [opnF, c_4]) rfl (Nat.le_of_ble_eq_true rfl) (Nat.le_of_ble_eq_true rfl) dX9_openFault_16
  · refine r_getsF C hw 3 (by decide) fl_X9_63 dX9_openFault_7 ?_
    refine lv_goto (tgt := 16) C.1 C.2.1 dX9_openFault_10 (by decide) ?_
    exact r_eret C hw (v := some 3) (ad := G.2.2.2.1) rfl (Or.inl ⟨_, rfl⟩) () (by simp [opnF, c_4]) rfl (Nat.le_of_ble_eq_true rfl) (Nat.le_of_ble_eq_true rfl) dX9_openFault_16

set_option maxHeartbeats 4000000 in
set_option maxRecDepth 100000 in
theorem k9_closeFault {l : Launch} {G : Gx} (hF : SF l G) {a : Nat → Nat} {S : SV} {X : va_W} (ok : okS S) : ME l G yX9_closeFault cX9_closeFault 1 (.object "DropMarket$Fault") 0 0 0 [.ref (a 0)] (stW G a S ++ X) G.2.2.2.1 (fun r (_ : Unit) => r = some (cloF S)) (fun _ : Unit => stW G a S ++ X) := by
  refine mt_of hF (by decide) (Nat.le_of_ble_eq_true rfl) ?_
  intro p e s m below meth c C hin ls hl H locs hw
  have hl : lv_has ls 1 [(0, .ref (a 0))] := hl
  refine lv_aload_n C.1 C.2.1 dX9_closeFault_0 rfl (lv_at hl 0 rfl) ?_
  refine r_get C hw 0 rfl rfl in_X9 2 (by decide) fl_X9_25 rfl (v := .int (S.1 2)) rfl dX9_closeFault_1 ?_
  refine lv_if_eq (tgt := 13) C.1 C.2.1 dX9_closeFault_4 (by decide) (fun c_4 => ?_) (fun c_4 => ?_)
  · refine r_getsF C hw 3 (by decide) fl_X9_63 dX9_closeFault_13 ?_
    exact r_eret C hw (v := some 3) (ad := G.2.2.2.1) rfl (Or.inl ⟨_, rfl⟩) () (by simp [cloF, c_4]) rfl (Nat.le_of_ble_eq_true rfl) (Nat.le_of_ble_eq_true rfl) dX9_closeFault_16
  · refine r_getsF C hw 0 (by decide) fl_X9_66 dX9_closeFault_7 ?_
    refine lv_goto (tgt := 16) C.1 C.2.1 dX9_closeFault_10 (by decide) ?_
    exact r_eret C hw (v := some 0) (ad := G.2.2.2.1) rfl (Or.inl ⟨_, rfl⟩) () (by simp [cloF, c_4]) rfl (Nat.le_of_ble_eq_true rfl) (Nat.le_of_ble_eq_true rfl) dX9_closeFault_16

set_option maxHeartbeats 4000000 in
set_option maxRecDepth 100000 in
theorem k9_isCovered {l : Launch} {G : Gx} (hF : SF l G) {a : Nat → Nat} {S : SV} {X : va_W} (ok : okS S) : MI l G yX9_isCovered cX9_isCovered 2 .boolean 4 0 0 [.ref (a 0)] (stW G a S ++ X) (fun r _ => r = bI (covS S)) (fun _ : Unit => stW G a S ++ X) := by
  refine mt_of hF (by decide) (Nat.le_of_ble_eq_true rfl) ?_
  intro p e s m below meth c C hin ls hl H locs hw
  have hl : lv_has ls 2 [(0, .ref (a 0))] := hl
  refine lv_iconst (v := 0) C.1 C.2.1 dX9_isCovered_0 (by decide) ?_
  refine lv_istore_n (lv' := [(1, .int 0), (0, .ref (a 0))]) C.1 C.2.1 dX9_isCovered_1 rfl hl (by decide) rfl (fun ls hl => ?_)
  refine w_loop (σ := Nat) G (fun u k => k ≤ nT S ∧ nT S < k + u ∧ fnd (ncov S) k = none) (fun k => stW G a S ++ X) (fun k => 0) (fun k => 0) (fun k => [(0, .ref (a 0)), (1, .int (nI k))]) 2 ?_ ?_ (nT S + 1) 0 (⟨Nat.zero_le _, by omega, rfl⟩) hw (lv_sub hl [1, 0] rfl)
  · rintro n2 k ⟨h1, h2, h3⟩ ih2 H locs hw ls hl
    replace hw : WH G s (stW G a S ++ X) H locs := hw
    replace hl : lv_has ls 2 [(0, .ref (a 0)), (1, .int (nI k))] := hl
    refine lv_iload_n C.1 C.2.1 dX9_isCovered_2 rfl (lv_at hl 1 rfl) ?_
    refine lv_aload_n C.1 C.2.1 dX9_isCovered_3 rfl (lv_at hl 0 rfl) ?_
    refine r_get C hw 0 rfl rfl in_X9 0 (by decide) fl_X9_12 rfl (v := .ref (a 1)) rfl dX9_isCovered_4 ?_
    refine r_get C hw 1 rfl rfl in_X8 2 (by decide) fl_X9_110 rfl (v := .int (S.1 0)) rfl dX9_isCovered_7 ?_
    refine r_toe (show _ = nI (nT S) from ok.2.2.1) ?_
    refine lv_icmp_ge (tgt := 37) C.1 C.2.1 dX9_isCovered_10 (by decide) (fun c_10 => ?_) (fun c_10 => ?_)
    · have hk := le_T h1 (by have := ok.2.2.2; omega) c_10
      refine lv_iconst (v := 1) C.1 C.2.1 dX9_isCovered_37 (by decide) ?_
      exact r_iret C hw rfl rfl () (by rw [covS, ← hk, h3]; rfl) rfl (Nat.le_of_ble_eq_true rfl) (Nat.le_of_ble_eq_true rfl) dX9_isCovered_38
    · have hk := le_F h1 (by have := ok.2.2.2; omega) c_10
      refine lv_aload_n C.1 C.2.1 dX9_isCovered_13 rfl (lv_at hl 0 rfl) ?_
      refine lv_iload_n C.1 C.2.1 dX9_isCovered_14 rfl (lv_at hl 1 rfl) ?_
      refine r_vi C hw (k9_freeMoney hF (a := a) (S := S) (X := X) ok (nI k)) ml_X9_76 yf_X9_freeMoney 0 rfl rfl (As := [.int (nI k)]) rfl rfl ⟨Nat.le_of_ble_eq_true rfl, Nat.le_of_ble_eq_true rfl⟩ ⟨Nat.le_of_ble_eq_true rfl, Nat.le_of_ble_eq_true rfl⟩ hl.1 (Nat.le_of_ble_eq_true rfl) dX9_isCovered_15 (fun r_15 _ H locs hp_15 hw => ?_)
      obtain rfl : r_15 = frM S (nI k) := hp_15
      replace hw : WH G s (stW G a S ++ X) H locs := hw
      refine lv_if_lt (tgt := 29) C.1 C.2.1 dX9_isCovered_18 (by decide) (fun c_18 => ?_) (fun c_18 => ?_)
      · refine lv_iconst (v := 0) C.1 C.2.1 dX9_isCovered_29 (by decide) ?_
        exact r_iret C hw rfl rfl () (by rw [covS, fnd_t h3 (by simp [ncov, c_18]) hk]; rfl) rfl (Nat.le_of_ble_eq_true rfl) (Nat.le_of_ble_eq_true rfl) dX9_isCovered_30
      · refine lv_aload_n C.1 C.2.1 dX9_isCovered_21 rfl (lv_at hl 0 rfl) ?_
        refine lv_iload_n C.1 C.2.1 dX9_isCovered_22 rfl (lv_at hl 1 rfl) ?_
        refine r_vi C hw (k9_freeDrops hF (a := a) (S := S) (X := X) ok (nI k)) ml_X9_80 yf_X9_freeDrops 0 rfl rfl (As := [.int (nI k)]) rfl rfl ⟨Nat.le_of_ble_eq_true rfl, Nat.le_of_ble_eq_true rfl⟩ ⟨Nat.le_of_ble_eq_true rfl, Nat.le_of_ble_eq_true rfl⟩ hl.1 (Nat.le_of_ble_eq_true rfl) dX9_isCovered_23 (fun r_23 _ H locs hp_23 hw => ?_)
        obtain rfl : r_23 = frD S (nI k) := hp_23
        replace hw : WH G s (stW G a S ++ X) H locs := hw
        refine lv_if_ge (tgt := 31) C.1 C.2.1 dX9_isCovered_26 (by decide) (fun c_26 => ?_) (fun c_26 => ?_)
        · refine lv_iinc (v := nI (k + 1)) (lv' := [(1, .int (nI (k + 1))), (0, .ref (a 0))]) C.1 C.2.1 dX9_isCovered_31 hl (k := 1) rfl (inc_nI k) (by decide) rfl (fun ls hl => ?_)
          refine lv_goto (tgt := 2) C.1 C.2.1 dX9_isCovered_34 (by decide) ?_
          exact ih2 (k + 1) (⟨by omega, by omega, fnd_f h3 (by simp [ncov, c_18, c_26])⟩) _ _ hw _ (lv_sub hl [1, 0] rfl)
        · refine lv_iconst (v := 0) C.1 C.2.1 dX9_isCovered_29 (by decide) ?_
          exact r_iret C hw rfl rfl () (by rw [covS, fnd_t h3 (by simp [ncov, c_18, c_26]) hk]; rfl) rfl (Nat.le_of_ble_eq_true rfl) (Nat.le_of_ble_eq_true rfl) dX9_isCovered_30
  · rintro k ⟨h1, h2, h3⟩; omega

