/-! The model: a new order, the pool's end -/
/-- which exception an order throws, or 0 -/
def opC (f : Nat → Int32) (x : Int32) (b : Bool) (pr q mi : Int32) : Int32 :=
  if isF f x = false then 1
  else if (inR pr 1 99 && inR q 1 50 && decide (mi ≤ 60)) = false then 2
  else if (if mi = -1 then decide (f 4 = 1) else decide (f 1 = 20)) = true then 3
  else if (if b = true then decide (fqR f x.toNatClampNeg true (nF f) < pr * q) else decide (fqR f x.toNatClampNeg false (nF f) < q)) = true then 4 else 0
def nxF (f : Nat → Int32) : Nat → Int32 := upd f 2 (f 2 + 1)
/-- what it trades at once -/
def opT (f : Nat → Int32) (i : Nat) (b : Bool) (pr q : Int32) : (Nat → Int32) × Int32 := if nxF f 4 = 1 then (nxF f, q) else mtR b i pr 21 (nxF f) q
def opV (f : Nat → Int32) (num : Int32) (i : Nat) (b : Bool) (pr q mi : Int32) : Nat → Int32 :=
  upd (upd (upd (upd (upd (upd f (21 + 6 * nF f) num) (21 + 6 * nF f + 1) (nI i)) (21 + 6 * nF f + 2) (bI b)) (21 + 6 * nF f + 3) pr) (21 + 6 * nF f + 4) q) (21 + 6 * nF f + 5) mi
def opW (f : Nat → Int32) (num : Int32) (i : Nat) (b : Bool) (pr q mi : Int32) : Nat → Int32 := upd (opV f num i b pr q mi) 1 (nI (nF f + 1))
def opE (U : MV_) (i : Nat) (b : Bool) (pr q mi : Int32) (t : (Nat → Int32) × Int32) : MV_ × Int32 :=
  if mi = -1 then (mR U 0 t.1, q - t.2) else if t.2 ≤ 0 then (mR U 0 t.1, U.2 0 2) else (mR U 0 (opW t.1 (U.2 0 2) i b pr t.2 mi), U.2 0 2)
def opM (U : MV_) (x : Int32) (b : Bool) (pr q mi : Int32) : MV_ × Int32 :=
  if opC (U.2 0) x b pr q mi = 0 then opE U x.toNatClampNeg b pr q mi (opT (U.2 0) x.toNatClampNeg b pr q) else (mI U 2 (opC (U.2 0) x b pr q mi), 0)
theorem opM_f {U : MV_} {x : Int32} {b : Bool} {pr q mi k : Int32} (h : opC (U.2 0) x b pr q mi = k) (hk : ¬ k = 0) : opM U x b pr q mi = (mI U 2 k, 0) := by
  rw [opM, h, if_neg hk]
theorem opM_g {U : MV_} {i : Nat} {b : Bool} {pr q mi : Int32} {t : (Nat → Int32) × Int32} (hi : i < 2 ^ 31) (h : opC (U.2 0) (nI i) b pr q mi = 0) (ht : opT (U.2 0) i b pr q = t) : opM U (nI i) b pr q mi = opE U i b pr q mi t := by
  rw [opM, h, if_pos rfl, nI_clamp hi, ht]
theorem okF_nx {f : Nat → Int32} (h : okF f) : okF (nxF f) ∧ nF (nxF f) = nF f :=
  okF_of h (pk_un (by omega)) (pk_un (by omega)) (fun q _ => by unfold oF nxF; exact pk_un (by omega))
theorem mtR_ok {b : Bool} {i : Nat} (hi : i < 6) {pr : Int32} : ∀ {v : Nat} {f : Nat → Int32} {x : Int32}, okF f → okF (mtR b i pr v f x).1 ∧ nF (mtR b i pr v f x).1 ≤ nF f
  | 0, f, x, h => ⟨h, Nat.le_refl _⟩
  | v + 1, f, x, h => by
    rw [mtR]
    split
    · exact ⟨h, Nat.le_refl _⟩
    · split
      · exact ⟨h, Nat.le_refl _⟩
      · rename_i j hj
        split
        · have h1 := mtS_ok (b := b) (i := i) (x := x) h hi (mb_lt hj)
          have h2 := mtR_ok hi (b := b) (pr := pr) (v := v) (x := x - mtT f x j) h1.1
          exact ⟨h2.1, Nat.le_trans h2.2 h1.2⟩
        · exact ⟨h, Nat.le_refl _⟩
theorem opT_ok {f : Nat → Int32} (h : okF f) {i : Nat} (hi : i < 6) (b : Bool) (pr q : Int32) : okF (opT f i b pr q).1 ∧ nF (opT f i b pr q).1 ≤ nF f := by
  have h1 := okF_nx h
  unfold opT
  split
  · exact ⟨h1.1, by rw [h1.2]; exact Nat.le_refl _⟩
  · have h2 := mtR_ok hi (b := b) (pr := pr) (v := 21) (x := q) h1.1
    exact ⟨h2.1, by rw [← h1.2]; exact h2.2⟩
theorem opV_1 {f : Nat → Int32} {num : Int32} {i : Nat} {b : Bool} {pr q mi : Int32} : opV f num i b pr q mi 1 = f 1 := by
  unfold opV
  rw [pk_un (by omega), pk_un (by omega), pk_un (by omega), pk_un (by omega), pk_un (by omega), pk_un (by omega)]

set_option maxHeartbeats 4000000 in
set_option maxRecDepth 100000 in
theorem k12_doPlace {l : Launch} {G : Gx} (hF : SF l G) {mo : Nat → Nat} {U : MV_} {X : va_W} (hok : okF (U.2 0)) (x : Int32) (b : Bool) (pr q mi : Int32) : MI l G yX12_doPlace cX12_doPlace 9 .int 4 0 0 [.ref (mo 0), .int x, .int (bI b), .int pr, .int q, .int mi] (moW G mo U ++ X) (fun r _ => r = (opM U x b pr q mi).2) (fun _ : Unit => moW G mo (opM U x b pr q mi).1 ++ X) := by
  refine mt_of hF (by decide) (Nat.le_of_ble_eq_true rfl) ?_
  intro p e s m below meth c C hin ls hl H locs hw
  have hl : lv_has ls 9 [(0, .ref (mo 0)), (1, .int x), (2, .int (bI b)), (3, .int pr), (4, .int q), (5, .int mi)] := hl
  refine lv_aload_n C.1 C.2.1 dX12_doPlace_0 rfl (lv_at hl 0 rfl) ?_
  refine lv_iload_n C.1 C.2.1 dX12_doPlace_1 rfl (lv_at hl 1 rfl) ?_
  refine r_vi C hw (k12_isStall hF (mo := mo) (U := U) (X := X) x) ml_X12_87 yf_X12_isStall 0 rfl rfl (As := [.int x]) rfl rfl ⟨Nat.le_of_ble_eq_true rfl, Nat.le_of_ble_eq_true rfl⟩ ⟨Nat.le_of_ble_eq_true rfl, Nat.le_of_ble_eq_true rfl⟩ hl.1 (Nat.le_of_ble_eq_true rfl) dX12_doPlace_2 (fun r_2 _ H locs hp_2 hw => ?_)
  obtain rfl : r_2 = bI (isF (U.2 0) x) := hp_2
  replace hw : WH G s (moW G mo U ++ X) H locs := hw
  refine lv_if_ne (tgt := 14) C.1 C.2.1 dX12_doPlace_5 (by decide) (fun c_5 => ?_) (fun c_5 => ?_)
  · have b_5 := bI_ne0.mp c_5
    obtain ⟨i, rfl, hi⟩ := isF_t hok b_5
    have ht6 := hok.2.2.2.1
    have hn20 := hok.2.1
    replace hl : lv_has ls 9 [(0, .ref (mo 0)), (1, .int (nI i)), (2, .int (bI b)), (3, .int pr), (4, .int q), (5, .int mi)] := hl
    refine lv_iload_n C.1 C.2.1 dX12_doPlace_14 rfl (lv_at hl 3 rfl) ?_
    refine lv_iconst (v := 1) C.1 C.2.1 dX12_doPlace_15 (by decide) ?_
    refine lv_bipush (v := 99) C.1 C.2.1 dX12_doPlace_16 (by decide) ?_
    refine r_si C hw (k12_in hF (X := moW G mo U ++ X) pr 1 99) ml_X12_51 yf_X12_in (As := [.int pr, .int 1, .int 99]) rfl rfl ⟨Nat.le_of_ble_eq_true rfl, Nat.le_of_ble_eq_true rfl⟩ ⟨Nat.le_of_ble_eq_true rfl, Nat.le_of_ble_eq_true rfl⟩ hl.1 (Nat.le_of_ble_eq_true rfl) dX12_doPlace_18 (fun r_18 _ H locs hp_18 hw => ?_)
    obtain rfl : r_18 = bI (inR pr 1 99) := hp_18
    replace hw : WH G s (moW G mo U ++ X) H locs := hw
    refine lv_if_eq (tgt := 42) C.1 C.2.1 dX12_doPlace_21 (by decide) (fun c_21 => ?_) (fun c_21 => ?_)
    · have b_21 := bI_eq0.mp c_21
      refine lv_aload_n C.1 C.2.1 dX12_doPlace_42 rfl (lv_at hl 0 rfl) ?_
      refine lv_iconst (v := 2) C.1 C.2.1 dX12_doPlace_43 (by decide) ?_
      refine r_vi C hw (k12_fails hF (mo := mo) (U := U) (X := X) 2) ml_X12_90 yf_X12_fails 0 rfl rfl (As := [.int 2]) rfl rfl ⟨Nat.le_of_ble_eq_true rfl, Nat.le_of_ble_eq_true rfl⟩ ⟨Nat.le_of_ble_eq_true rfl, Nat.le_of_ble_eq_true rfl⟩ hl.1 (Nat.le_of_ble_eq_true rfl) dX12_doPlace_44 (fun r_44 _ H locs hp_44 hw => ?_)
      obtain rfl : r_44 = 0 := hp_44
      replace hw : WH G s (moW G mo (mI U 2 2) ++ X) H locs := hw
      exact r_iret C hw rfl rfl () (by rw [opM_f (k := 2) (by simp [opC, b_5, b_21]) (by decide)]) (by rw [opM_f (k := 2) (by simp [opC, b_5, b_21]) (by decide)]) (Nat.le_of_ble_eq_true rfl) (Nat.le_of_ble_eq_true rfl) dX12_doPlace_47
    · have b_21 := bI_ne0.mp c_21
      refine lv_iload C.1 C.2.1 dX12_doPlace_24 (lv_at hl 4 rfl) ?_
      refine lv_iconst (v := 1) C.1 C.2.1 dX12_doPlace_26 (by decide) ?_
      refine lv_bipush (v := 50) C.1 C.2.1 dX12_doPlace_27 (by decide) ?_
      refine r_si C hw (k12_in hF (X := moW G mo U ++ X) q 1 50) ml_X12_51 yf_X12_in (As := [.int q, .int 1, .int 50]) rfl rfl ⟨Nat.le_of_ble_eq_true rfl, Nat.le_of_ble_eq_true rfl⟩ ⟨Nat.le_of_ble_eq_true rfl, Nat.le_of_ble_eq_true rfl⟩ hl.1 (Nat.le_of_ble_eq_true rfl) dX12_doPlace_29 (fun r_29 _ H locs hp_29 hw => ?_)
      obtain rfl : r_29 = bI (inR q 1 50) := hp_29
      replace hw : WH G s (moW G mo U ++ X) H locs := hw
      refine lv_if_eq (tgt := 42) C.1 C.2.1 dX12_doPlace_32 (by decide) (fun c_32 => ?_) (fun c_32 => ?_)
      · have b_32 := bI_eq0.mp c_32
        refine lv_aload_n C.1 C.2.1 dX12_doPlace_42 rfl (lv_at hl 0 rfl) ?_
        refine lv_iconst (v := 2) C.1 C.2.1 dX12_doPlace_43 (by decide) ?_
        refine r_vi C hw (k12_fails hF (mo := mo) (U := U) (X := X) 2) ml_X12_90 yf_X12_fails 0 rfl rfl (As := [.int 2]) rfl rfl ⟨Nat.le_of_ble_eq_true rfl, Nat.le_of_ble_eq_true rfl⟩ ⟨Nat.le_of_ble_eq_true rfl, Nat.le_of_ble_eq_true rfl⟩ hl.1 (Nat.le_of_ble_eq_true rfl) dX12_doPlace_44 (fun r_44 _ H locs hp_44 hw => ?_)
        obtain rfl : r_44 = 0 := hp_44
        replace hw : WH G s (moW G mo (mI U 2 2) ++ X) H locs := hw
        exact r_iret C hw rfl rfl () (by rw [opM_f (k := 2) (by simp [opC, b_5, b_21, b_32]) (by decide)]) (by rw [opM_f (k := 2) (by simp [opC, b_5, b_21, b_32]) (by decide)]) (Nat.le_of_ble_eq_true rfl) (Nat.le_of_ble_eq_true rfl) dX12_doPlace_47
      · have b_32 := bI_ne0.mp c_32
        refine lv_iload C.1 C.2.1 dX12_doPlace_35 (lv_at hl 5 rfl) ?_
        refine lv_bipush (v := 60) C.1 C.2.1 dX12_doPlace_37 (by decide) ?_
        refine lv_icmp_le (tgt := 48) C.1 C.2.1 dX12_doPlace_39 (by decide) (fun c_39 => ?_) (fun c_39 => ?_)
        · refine lv_iload C.1 C.2.1 dX12_doPlace_48 (lv_at hl 5 rfl) ?_
          refine lv_iconst (v := -1) C.1 C.2.1 dX12_doPlace_50 (by decide) ?_
          refine lv_icmp_ne (tgt := 67) C.1 C.2.1 dX12_doPlace_51 (by decide) (fun c_51 => ?_) (fun c_51 => ?_)
          · refine lv_aload_n C.1 C.2.1 dX12_doPlace_67 rfl (lv_at hl 0 rfl) ?_
            refine r_get C hw 0 rfl rfl in_X12 0 (by decide) fl_X12_9 rfl (v := .ref (mo 1)) rfl dX12_doPlace_68 ?_
            refine lv_iconst (v := 1) C.1 C.2.1 dX12_doPlace_71 (by decide) ?_
            refine r_iald C hw 1 rfl (vp_in_nI (n := 1) (by omega) (by decide)) dX12_doPlace_72 ?_
            refine r_toe (show _ = (U.2 0) 1 from congrArg (U.2 0) (nI_clamp (n := 1) (by omega))) ?_
            refine lv_bipush (v := 20) C.1 C.2.1 dX12_doPlace_73 (by decide) ?_
            refine lv_icmp_ne (tgt := 84) C.1 C.2.1 dX12_doPlace_75 (by decide) (fun c_75 => ?_) (fun c_75 => ?_)
            · refine lv_iload_n C.1 C.2.1 dX12_doPlace_84 rfl (lv_at hl 2 rfl) ?_
              refine lv_if_eq (tgt := 104) C.1 C.2.1 dX12_doPlace_85 (by decide) (fun c_85 => ?_) (fun c_85 => ?_)
              · obtain rfl : b = false := bI_eq0.mp c_85
                clear c_85
                replace hl : lv_has ls 9 [(0, .ref (mo 0)), (1, .int (nI i)), (2, .int (bI false)), (3, .int pr), (4, .int q), (5, .int mi)] := hl
                refine lv_aload_n C.1 C.2.1 dX12_doPlace_104 rfl (lv_at hl 0 rfl) ?_
                refine lv_iload_n C.1 C.2.1 dX12_doPlace_105 rfl (lv_at hl 1 rfl) ?_
                refine lv_iconst (v := 1) C.1 C.2.1 dX12_doPlace_106 (by decide) ?_
                refine r_vi C hw (k12_free_1 hF (mo := mo) (U := U) (X := X) (n := (nF (U.2 0))) hok.1 hok.2.1 (i := i) (by omega)) ml_X12_94 yf_X12_free 0 rfl rfl (As := [.int (nI i), .int 1]) rfl rfl ⟨Nat.le_of_ble_eq_true rfl, Nat.le_of_ble_eq_true rfl⟩ ⟨Nat.le_of_ble_eq_true rfl, Nat.le_of_ble_eq_true rfl⟩ hl.1 (Nat.le_of_ble_eq_true rfl) dX12_doPlace_107 (fun r_107 _ H locs hp_107 hw => ?_)
                obtain rfl : r_107 = fqR (U.2 0) i false (nF (U.2 0)) := hp_107
                replace hw : WH G s (moW G mo U ++ X) H locs := hw
                refine lv_iload C.1 C.2.1 dX12_doPlace_110 (lv_at hl 4 rfl) ?_
                refine lv_icmp_ge (tgt := 121) C.1 C.2.1 dX12_doPlace_112 (by decide) (fun c_112 => ?_) (fun c_112 => ?_)
                · refine lv_aload_n C.1 C.2.1 dX12_doPlace_121 rfl (lv_at hl 0 rfl) ?_
                  refine r_get C hw 0 rfl rfl in_X12 0 (by decide) fl_X12_9 rfl (v := .ref (mo 1)) rfl dX12_doPlace_122 ?_
                  refine lv_iconst (v := 2) C.1 C.2.1 dX12_doPlace_125 (by decide) ?_
                  refine r_iald C hw 1 rfl (vp_in_nI (n := 2) (by omega) (by decide)) dX12_doPlace_126 ?_
                  refine r_toe (show _ = (U.2 0) 2 from congrArg (U.2 0) (nI_clamp (n := 2) (by omega))) ?_
                  refine lv_istore (lv' := [(6, .int ((U.2 0) 2)), (0, .ref (mo 0)), (1, .int (nI i)), (2, .int (bI false)), (3, .int pr), (4, .int q), (5, .int mi)]) C.1 C.2.1 dX12_doPlace_127 hl (by decide) rfl (fun ls hl => ?_)
                  refine lv_aload_n C.1 C.2.1 dX12_doPlace_129 rfl (lv_at hl 1 rfl) ?_
                  refine r_get C hw 0 rfl rfl in_X12 0 (by decide) fl_X12_9 rfl (v := .ref (mo 1)) rfl dX12_doPlace_130 ?_
                  refine lv_iconst (v := 2) C.1 C.2.1 dX12_doPlace_133 (by decide) ?_
                  refine lv_dup2_11 C.1 C.2.1 dX12_doPlace_134 rfl rfl ?_
                  refine r_iald C hw 1 rfl (vp_in_nI (n := 2) (by omega) (by decide)) dX12_doPlace_135 ?_
                  refine r_toe (show _ = (U.2 0) 2 from congrArg (U.2 0) (nI_clamp (n := 2) (by omega))) ?_
                  refine lv_iconst (v := 1) C.1 C.2.1 dX12_doPlace_136 (by decide) ?_
                  refine lv_iadd C.1 C.2.1 dX12_doPlace_137 ?_
                  refine r_iast C hw 1 rfl (vp_in_nI (n := 2) (by omega) (by decide)) (w' := moW G mo (mR U 0 (upd (U.2 0) 2 (((U.2 0) 2) + 1))) ++ X) rfl dX12_doPlace_138 (fun H locs hw => ?_)
                  replace hw : WH G s (moW G mo (mR U 0 (nxF (U.2 0))) ++ X) H locs := hw
                  refine lv_aload_n C.1 C.2.1 dX12_doPlace_139 rfl (lv_at hl 1 rfl) ?_
                  refine r_get C hw 0 rfl rfl in_X12 0 (by decide) fl_X12_9 rfl (v := .ref (mo 1)) rfl dX12_doPlace_140 ?_
                  refine lv_iconst (v := 4) C.1 C.2.1 dX12_doPlace_143 (by decide) ?_
                  refine r_iald C hw 1 rfl (vp_in_nI (n := 4) (by omega) (by decide)) dX12_doPlace_144 ?_
                  refine r_toe (show _ = (nxF (U.2 0)) 4 from congrArg (nxF (U.2 0)) (nI_clamp (n := 4) (by omega))) ?_
                  refine lv_iconst (v := 1) C.1 C.2.1 dX12_doPlace_145 (by decide) ?_
                  refine lv_icmp_ne (tgt := 154) C.1 C.2.1 dX12_doPlace_146 (by decide) (fun c_146 => ?_) (fun c_146 => ?_)
                  · refine lv_aload_n C.1 C.2.1 dX12_doPlace_154 rfl (lv_at hl 1 rfl) ?_
                    refine lv_iload_n C.1 C.2.1 dX12_doPlace_155 rfl (lv_at hl 2 rfl) ?_
                    refine lv_iload_n C.1 C.2.1 dX12_doPlace_156 rfl (lv_at hl 3 rfl) ?_
                    refine lv_iload_n C.1 C.2.1 dX12_doPlace_157 rfl (lv_at hl 4 rfl) ?_
                    refine lv_iload C.1 C.2.1 dX12_doPlace_158 (lv_at hl 5 rfl) ?_
                    refine r_vi C hw (k12_trades hF (mo := mo) (U := (mR U 0 (nxF (U.2 0)))) (X := X) (show okF (nxF (U.2 0)) from (okF_nx hok).1) (i := i) (by omega) false pr q) ml_X12_97 yf_X12_trades 0 rfl rfl (As := [.int (nI i), .int (bI false), .int pr, .int q]) rfl rfl ⟨Nat.le_of_ble_eq_true rfl, Nat.le_of_ble_eq_true rfl⟩ ⟨Nat.le_of_ble_eq_true rfl, Nat.le_of_ble_eq_true rfl⟩ hl.1 (Nat.le_of_ble_eq_true rfl) dX12_doPlace_160 (fun r_160 _ H locs hp_160 hw => ?_)
                    obtain rfl : r_160 = (mtR false i pr 21 (nxF (U.2 0)) q).2 := hp_160
                    replace hw : WH G s (moW G mo (mR (mR U 0 (nxF (U.2 0))) 0 (mtR false i pr 21 (nxF (U.2 0)) q).1) ++ X) H locs := hw
                    have h4 := Int32.not_lt.mpr c_112
                    have hC : opC (U.2 0) (nI i) false pr q mi = 0 := by simp [opC, b_5, b_21, b_32, c_39, c_51, c_75, c_112, nI_clamp (show i < 2 ^ 31 by omega), h4]
                    have hT : opT (U.2 0) i false pr q = mtR false i pr 21 (nxF (U.2 0)) q := if_neg c_146
                    have hO := opT_ok hok (i := i) (by omega) false pr q
                    rw [hT] at hO
                    obtain ⟨t, ht⟩ : ∃ t, mtR false i pr 21 (nxF (U.2 0)) q = t := ⟨_, rfl⟩
                    rw [ht] at hw hO hT
                    refine r_toe (congrArg Prod.snd ht) ?_
                    replace ht := hT
                    replace hw : WH G s (moW G mo (mR U 0 t.1) ++ X) H locs := hw.to (by rw [mR_mR])
                    have htn := hO.1.2.1
                    refine lv_istore (lv' := [(7, .int t.2), (6, .int ((U.2 0) 2)), (0, .ref (mo 0)), (1, .int (nI i)), (2, .int (bI false)), (3, .int pr), (4, .int q), (5, .int mi)]) C.1 C.2.1 dX12_doPlace_163 hl (by decide) rfl (fun ls hl => ?_)
                    refine lv_iload C.1 C.2.1 dX12_doPlace_165 (lv_at hl 7 rfl) ?_
                    refine lv_iconst (v := -1) C.1 C.2.1 dX12_doPlace_167 (by decide) ?_
                    refine lv_icmp_ne (tgt := 177) C.1 C.2.1 dX12_doPlace_168 (by decide) (fun c_168 => ?_) (fun c_168 => ?_)
                    · refine lv_iload C.1 C.2.1 dX12_doPlace_177 (lv_at hl 0 rfl) ?_
                      refine lv_if_le (tgt := 275) C.1 C.2.1 dX12_doPlace_179 (by decide) (fun c_179 => ?_) (fun c_179 => ?_)
                      · refine lv_iload C.1 C.2.1 dX12_doPlace_275 (lv_at hl 1 rfl) ?_
                        exact r_iret C hw rfl rfl () (by rw [opM_g (by omega) hC ht, opE, if_neg c_168, if_pos c_179]) (by rw [opM_g (by omega) hC ht, opE, if_neg c_168, if_pos c_179]) (Nat.le_of_ble_eq_true rfl) (Nat.le_of_ble_eq_true rfl) dX12_doPlace_277
                      · refine lv_bipush (v := 21) C.1 C.2.1 dX12_doPlace_182 (by decide) ?_
                        refine lv_bipush (v := 6) C.1 C.2.1 dX12_doPlace_184 (by decide) ?_
                        refine lv_aload_n C.1 C.2.1 dX12_doPlace_186 rfl (lv_at hl 2 rfl) ?_
                        refine r_get C hw 0 rfl rfl in_X12 0 (by decide) fl_X12_9 rfl (v := .ref (mo 1)) rfl dX12_doPlace_187 ?_
                        refine lv_iconst (v := 1) C.1 C.2.1 dX12_doPlace_190 (by decide) ?_
                        refine r_iald C hw 1 rfl (vp_in_nI (n := 1) (by omega) (by decide)) dX12_doPlace_191 ?_
                        refine r_toe (show _ = t.1 1 from congrArg t.1 (nI_clamp (n := 1) (by omega))) ?_
                        refine r_toe (show _ = nI (nF t.1) from hO.1.1) ?_
                        refine lv_imul C.1 C.2.1 dX12_doPlace_192 ?_
                        refine r_toe (pk_mul 6 (nF t.1)) ?_
                        refine lv_iadd C.1 C.2.1 dX12_doPlace_193 ?_
                        refine r_toe (nI_add 21 (6 * (nF t.1))) ?_
                        refine lv_istore (lv' := [(8, .int (nI (21 + (6 * (nF t.1))))), (7, .int t.2), (6, .int ((U.2 0) 2)), (0, .ref (mo 0)), (1, .int (nI i)), (2, .int (bI false)), (3, .int pr), (4, .int q), (5, .int mi)]) C.1 C.2.1 dX12_doPlace_194 hl (by decide) rfl (fun ls hl => ?_)
                        refine lv_aload_n C.1 C.2.1 dX12_doPlace_196 rfl (lv_at hl 3 rfl) ?_
                        refine r_get C hw 0 rfl rfl in_X12 0 (by decide) fl_X12_9 rfl (v := .ref (mo 1)) rfl dX12_doPlace_197 ?_
                        refine lv_iload C.1 C.2.1 dX12_doPlace_200 (lv_at hl 0 rfl) ?_
                        refine lv_iload C.1 C.2.1 dX12_doPlace_202 (lv_at hl 2 rfl) ?_
                        refine r_iast C hw 1 rfl (vp_in_nI (n := (21 + (6 * (nF t.1)))) (by omega) (by decide)) (w' := moW G mo (mR (mR U 0 t.1) 0 (upd t.1 (21 + (6 * (nF t.1))) ((U.2 0) 2))) ++ X) (by rw [show (nI (21 + (6 * (nF t.1)))).toNatClampNeg = (21 + (6 * (nF t.1))) from nI_clamp (by omega)]; rfl) dX12_doPlace_204 (fun H locs hw => ?_)
                        refine lv_aload_n C.1 C.2.1 dX12_doPlace_205 rfl (lv_at hl 3 rfl) ?_
                        refine r_get C hw 0 rfl rfl in_X12 0 (by decide) fl_X12_9 rfl (v := .ref (mo 1)) rfl dX12_doPlace_206 ?_
                        refine lv_iload C.1 C.2.1 dX12_doPlace_209 (lv_at hl 0 rfl) ?_
                        refine lv_iconst (v := 1) C.1 C.2.1 dX12_doPlace_211 (by decide) ?_
                        refine lv_iadd C.1 C.2.1 dX12_doPlace_212 ?_
                        refine r_toe (nI_add (21 + (6 * (nF t.1))) 1) ?_
                        refine lv_iload_n C.1 C.2.1 dX12_doPlace_213 rfl (lv_at hl 4 rfl) ?_
                        refine r_iast C hw 1 rfl (vp_in_nI (n := ((21 + (6 * (nF t.1))) + 1)) (by omega) (by decide)) (w' := moW G mo (mR (mR (mR U 0 t.1) 0 (upd t.1 (21 + (6 * (nF t.1))) ((U.2 0) 2))) 0 (upd (upd t.1 (21 + (6 * (nF t.1))) ((U.2 0) 2)) ((21 + (6 * (nF t.1))) + 1) (nI i))) ++ X) (by rw [show (nI ((21 + (6 * (nF t.1))) + 1)).toNatClampNeg = ((21 + (6 * (nF t.1))) + 1) from nI_clamp (by omega)]; rfl) dX12_doPlace_214 (fun H locs hw => ?_)
                        refine lv_aload_n C.1 C.2.1 dX12_doPlace_215 rfl (lv_at hl 3 rfl) ?_
                        refine r_get C hw 0 rfl rfl in_X12 0 (by decide) fl_X12_9 rfl (v := .ref (mo 1)) rfl dX12_doPlace_216 ?_
                        refine lv_iload C.1 C.2.1 dX12_doPlace_219 (lv_at hl 0 rfl) ?_
                        refine lv_iconst (v := 2) C.1 C.2.1 dX12_doPlace_221 (by decide) ?_
                        refine lv_iadd C.1 C.2.1 dX12_doPlace_222 ?_
                        refine r_toe (nI_add (21 + (6 * (nF t.1))) 2) ?_
                        refine lv_iload_n C.1 C.2.1 dX12_doPlace_223 rfl (lv_at hl 5 rfl) ?_
                        refine lv_if_eq (tgt := 231) C.1 C.2.1 dX12_doPlace_224 (by decide) (fun c_224 => ?_) (fun c_224 => absurd (by decide) c_224)
                        refine lv_iconst (v := 0) C.1 C.2.1 dX12_doPlace_231 (by decide) ?_
                        refine r_iast C hw 1 rfl (vp_in_nI (n := ((21 + (6 * (nF t.1))) + 2)) (by omega) (by decide)) (w' := moW G mo (mR (mR (mR (mR U 0 t.1) 0 (upd t.1 (21 + (6 * (nF t.1))) ((U.2 0) 2))) 0 (upd (upd t.1 (21 + (6 * (nF t.1))) ((U.2 0) 2)) ((21 + (6 * (nF t.1))) + 1) (nI i))) 0 (upd (upd (upd t.1 (21 + (6 * (nF t.1))) ((U.2 0) 2)) ((21 + (6 * (nF t.1))) + 1) (nI i)) ((21 + (6 * (nF t.1))) + 2) 0)) ++ X) (by rw [show (nI ((21 + (6 * (nF t.1))) + 2)).toNatClampNeg = ((21 + (6 * (nF t.1))) + 2) from nI_clamp (by omega)]; rfl) dX12_doPlace_232 (fun H locs hw => ?_)
                        refine lv_aload_n C.1 C.2.1 dX12_doPlace_233 rfl (lv_at hl 3 rfl) ?_
                        refine r_get C hw 0 rfl rfl in_X12 0 (by decide) fl_X12_9 rfl (v := .ref (mo 1)) rfl dX12_doPlace_234 ?_
                        refine lv_iload C.1 C.2.1 dX12_doPlace_237 (lv_at hl 0 rfl) ?_
                        refine lv_iconst (v := 3) C.1 C.2.1 dX12_doPlace_239 (by decide) ?_
                        refine lv_iadd C.1 C.2.1 dX12_doPlace_240 ?_
                        refine r_toe (nI_add (21 + (6 * (nF t.1))) 3) ?_
                        refine lv_iload_n C.1 C.2.1 dX12_doPlace_241 rfl (lv_at hl 6 rfl) ?_
                        refine r_iast C hw 1 rfl (vp_in_nI (n := ((21 + (6 * (nF t.1))) + 3)) (by omega) (by decide)) (w' := moW G mo (mR (mR (mR (mR (mR U 0 t.1) 0 (upd t.1 (21 + (6 * (nF t.1))) ((U.2 0) 2))) 0 (upd (upd t.1 (21 + (6 * (nF t.1))) ((U.2 0) 2)) ((21 + (6 * (nF t.1))) + 1) (nI i))) 0 (upd (upd (upd t.1 (21 + (6 * (nF t.1))) ((U.2 0) 2)) ((21 + (6 * (nF t.1))) + 1) (nI i)) ((21 + (6 * (nF t.1))) + 2) 0)) 0 (upd (upd (upd (upd t.1 (21 + (6 * (nF t.1))) ((U.2 0) 2)) ((21 + (6 * (nF t.1))) + 1) (nI i)) ((21 + (6 * (nF t.1))) + 2) 0) ((21 + (6 * (nF t.1))) + 3) pr)) ++ X) (by rw [show (nI ((21 + (6 * (nF t.1))) + 3)).toNatClampNeg = ((21 + (6 * (nF t.1))) + 3) from nI_clamp (by omega)]; rfl) dX12_doPlace_242 (fun H locs hw => ?_)
                        refine lv_aload_n C.1 C.2.1 dX12_doPlace_243 rfl (lv_at hl 3 rfl) ?_
                        refine r_get C hw 0 rfl rfl in_X12 0 (by decide) fl_X12_9 rfl (v := .ref (mo 1)) rfl dX12_doPlace_244 ?_
                        refine lv_iload C.1 C.2.1 dX12_doPlace_247 (lv_at hl 0 rfl) ?_
                        refine lv_iconst (v := 4) C.1 C.2.1 dX12_doPlace_249 (by decide) ?_
                        refine lv_iadd C.1 C.2.1 dX12_doPlace_250 ?_
                        refine r_toe (nI_add (21 + (6 * (nF t.1))) 4) ?_
                        refine lv_iload C.1 C.2.1 dX12_doPlace_251 (lv_at hl 1 rfl) ?_
                        refine r_iast C hw 1 rfl (vp_in_nI (n := ((21 + (6 * (nF t.1))) + 4)) (by omega) (by decide)) (w' := moW G mo (mR (mR (mR (mR (mR (mR U 0 t.1) 0 (upd t.1 (21 + (6 * (nF t.1))) ((U.2 0) 2))) 0 (upd (upd t.1 (21 + (6 * (nF t.1))) ((U.2 0) 2)) ((21 + (6 * (nF t.1))) + 1) (nI i))) 0 (upd (upd (upd t.1 (21 + (6 * (nF t.1))) ((U.2 0) 2)) ((21 + (6 * (nF t.1))) + 1) (nI i)) ((21 + (6 * (nF t.1))) + 2) 0)) 0 (upd (upd (upd (upd t.1 (21 + (6 * (nF t.1))) ((U.2 0) 2)) ((21 + (6 * (nF t.1))) + 1) (nI i)) ((21 + (6 * (nF t.1))) + 2) 0) ((21 + (6 * (nF t.1))) + 3) pr)) 0 (upd (upd (upd (upd (upd t.1 (21 + (6 * (nF t.1))) ((U.2 0) 2)) ((21 + (6 * (nF t.1))) + 1) (nI i)) ((21 + (6 * (nF t.1))) + 2) 0) ((21 + (6 * (nF t.1))) + 3) pr) ((21 + (6 * (nF t.1))) + 4) t.2)) ++ X) (by rw [show (nI ((21 + (6 * (nF t.1))) + 4)).toNatClampNeg = ((21 + (6 * (nF t.1))) + 4) from nI_clamp (by omega)]; rfl) dX12_doPlace_253 (fun H locs hw => ?_)
                        refine lv_aload_n C.1 C.2.1 dX12_doPlace_254 rfl (lv_at hl 3 rfl) ?_
                        refine r_get C hw 0 rfl rfl in_X12 0 (by decide) fl_X12_9 rfl (v := .ref (mo 1)) rfl dX12_doPlace_255 ?_
                        refine lv_iload C.1 C.2.1 dX12_doPlace_258 (lv_at hl 0 rfl) ?_
                        refine lv_iconst (v := 5) C.1 C.2.1 dX12_doPlace_260 (by decide) ?_
                        refine lv_iadd C.1 C.2.1 dX12_doPlace_261 ?_
                        refine r_toe (nI_add (21 + (6 * (nF t.1))) 5) ?_
                        refine lv_iload C.1 C.2.1 dX12_doPlace_262 (lv_at hl 8 rfl) ?_
                        refine r_iast C hw 1 rfl (vp_in_nI (n := ((21 + (6 * (nF t.1))) + 5)) (by omega) (by decide)) (w' := moW G mo (mR (mR (mR (mR (mR (mR (mR U 0 t.1) 0 (upd t.1 (21 + (6 * (nF t.1))) ((U.2 0) 2))) 0 (upd (upd t.1 (21 + (6 * (nF t.1))) ((U.2 0) 2)) ((21 + (6 * (nF t.1))) + 1) (nI i))) 0 (upd (upd (upd t.1 (21 + (6 * (nF t.1))) ((U.2 0) 2)) ((21 + (6 * (nF t.1))) + 1) (nI i)) ((21 + (6 * (nF t.1))) + 2) 0)) 0 (upd (upd (upd (upd t.1 (21 + (6 * (nF t.1))) ((U.2 0) 2)) ((21 + (6 * (nF t.1))) + 1) (nI i)) ((21 + (6 * (nF t.1))) + 2) 0) ((21 + (6 * (nF t.1))) + 3) pr)) 0 (upd (upd (upd (upd (upd t.1 (21 + (6 * (nF t.1))) ((U.2 0) 2)) ((21 + (6 * (nF t.1))) + 1) (nI i)) ((21 + (6 * (nF t.1))) + 2) 0) ((21 + (6 * (nF t.1))) + 3) pr) ((21 + (6 * (nF t.1))) + 4) t.2)) 0 (upd (upd (upd (upd (upd (upd t.1 (21 + (6 * (nF t.1))) ((U.2 0) 2)) ((21 + (6 * (nF t.1))) + 1) (nI i)) ((21 + (6 * (nF t.1))) + 2) 0) ((21 + (6 * (nF t.1))) + 3) pr) ((21 + (6 * (nF t.1))) + 4) t.2) ((21 + (6 * (nF t.1))) + 5) mi)) ++ X) (by rw [show (nI ((21 + (6 * (nF t.1))) + 5)).toNatClampNeg = ((21 + (6 * (nF t.1))) + 5) from nI_clamp (by omega)]; rfl) dX12_doPlace_264 (fun H locs hw => ?_)
                        refine lv_aload_n C.1 C.2.1 dX12_doPlace_265 rfl (lv_at hl 3 rfl) ?_
                        refine r_get C hw 0 rfl rfl in_X12 0 (by decide) fl_X12_9 rfl (v := .ref (mo 1)) rfl dX12_doPlace_266 ?_
                        refine lv_iconst (v := 1) C.1 C.2.1 dX12_doPlace_269 (by decide) ?_
                        refine lv_dup2_11 C.1 C.2.1 dX12_doPlace_270 rfl rfl ?_
                        refine r_iald C hw 1 rfl (vp_in_nI (n := 1) (by omega) (by decide)) dX12_doPlace_271 ?_
                        refine r_toe (show _ = (upd (upd (upd (upd (upd (upd t.1 (21 + (6 * (nF t.1))) ((U.2 0) 2)) ((21 + (6 * (nF t.1))) + 1) (nI i)) ((21 + (6 * (nF t.1))) + 2) 0) ((21 + (6 * (nF t.1))) + 3) pr) ((21 + (6 * (nF t.1))) + 4) t.2) ((21 + (6 * (nF t.1))) + 5) mi) 1 from congrArg (upd (upd (upd (upd (upd (upd t.1 (21 + (6 * (nF t.1))) ((U.2 0) 2)) ((21 + (6 * (nF t.1))) + 1) (nI i)) ((21 + (6 * (nF t.1))) + 2) 0) ((21 + (6 * (nF t.1))) + 3) pr) ((21 + (6 * (nF t.1))) + 4) t.2) ((21 + (6 * (nF t.1))) + 5) mi) (nI_clamp (n := 1) (by omega))) ?_
                        refine r_toe (show _ = nI (nF t.1) from (opV_1 (f := t.1) (num := U.2 0 2) (i := i) (b := false) (pr := pr) (q := t.2) (mi := mi)).trans hO.1.1) ?_
                        refine lv_iconst (v := 1) C.1 C.2.1 dX12_doPlace_272 (by decide) ?_
                        refine lv_iadd C.1 C.2.1 dX12_doPlace_273 ?_
                        refine r_toe (nI_add (nF t.1) 1) ?_
                        refine r_iast C hw 1 rfl (vp_in_nI (n := 1) (by omega) (by decide)) (w' := moW G mo (mR (mR (mR (mR (mR (mR (mR (mR U 0 t.1) 0 (upd t.1 (21 + (6 * (nF t.1))) ((U.2 0) 2))) 0 (upd (upd t.1 (21 + (6 * (nF t.1))) ((U.2 0) 2)) ((21 + (6 * (nF t.1))) + 1) (nI i))) 0 (upd (upd (upd t.1 (21 + (6 * (nF t.1))) ((U.2 0) 2)) ((21 + (6 * (nF t.1))) + 1) (nI i)) ((21 + (6 * (nF t.1))) + 2) 0)) 0 (upd (upd (upd (upd t.1 (21 + (6 * (nF t.1))) ((U.2 0) 2)) ((21 + (6 * (nF t.1))) + 1) (nI i)) ((21 + (6 * (nF t.1))) + 2) 0) ((21 + (6 * (nF t.1))) + 3) pr)) 0 (upd (upd (upd (upd (upd t.1 (21 + (6 * (nF t.1))) ((U.2 0) 2)) ((21 + (6 * (nF t.1))) + 1) (nI i)) ((21 + (6 * (nF t.1))) + 2) 0) ((21 + (6 * (nF t.1))) + 3) pr) ((21 + (6 * (nF t.1))) + 4) t.2)) 0 (upd (upd (upd (upd (upd (upd t.1 (21 + (6 * (nF t.1))) ((U.2 0) 2)) ((21 + (6 * (nF t.1))) + 1) (nI i)) ((21 + (6 * (nF t.1))) + 2) 0) ((21 + (6 * (nF t.1))) + 3) pr) ((21 + (6 * (nF t.1))) + 4) t.2) ((21 + (6 * (nF t.1))) + 5) mi)) 0 (upd (upd (upd (upd (upd (upd (upd t.1 (21 + (6 * (nF t.1))) ((U.2 0) 2)) ((21 + (6 * (nF t.1))) + 1) (nI i)) ((21 + (6 * (nF t.1))) + 2) 0) ((21 + (6 * (nF t.1))) + 3) pr) ((21 + (6 * (nF t.1))) + 4) t.2) ((21 + (6 * (nF t.1))) + 5) mi) 1 (nI ((nF t.1) + 1)))) ++ X) rfl dX12_doPlace_274 (fun H locs hw => ?_)
                        replace hw : WH G s (moW G mo (mR U 0 (opW t.1 (U.2 0 2) i false pr t.2 mi)) ++ X) H locs := hw.to (by simp only [mR_mR]; rfl)
                        refine lv_iload C.1 C.2.1 dX12_doPlace_275 (lv_at hl 2 rfl) ?_
                        exact r_iret C hw rfl rfl () (by rw [opM_g (by omega) hC ht, opE, if_neg c_168, if_neg c_179]) (by rw [opM_g (by omega) hC ht, opE, if_neg c_168, if_neg c_179]) (Nat.le_of_ble_eq_true rfl) (Nat.le_of_ble_eq_true rfl) dX12_doPlace_277
                    · refine lv_iload C.1 C.2.1 dX12_doPlace_171 (lv_at hl 6 rfl) ?_
                      refine lv_iload C.1 C.2.1 dX12_doPlace_173 (lv_at hl 0 rfl) ?_
                      refine lv_isub C.1 C.2.1 dX12_doPlace_175 ?_
                      exact r_iret C hw rfl rfl () (by rw [opM_g (by omega) hC ht, opE, if_pos c_168]) (by rw [opM_g (by omega) hC ht, opE, if_pos c_168]) (Nat.le_of_ble_eq_true rfl) (Nat.le_of_ble_eq_true rfl) dX12_doPlace_176
                  · refine lv_iload C.1 C.2.1 dX12_doPlace_149 (lv_at hl 5 rfl) ?_
                    refine lv_goto (tgt := 163) C.1 C.2.1 dX12_doPlace_151 (by decide) ?_
                    have h4 := Int32.not_lt.mpr c_112
                    have hC : opC (U.2 0) (nI i) false pr q mi = 0 := by simp [opC, b_5, b_21, b_32, c_39, c_51, c_75, c_112, nI_clamp (show i < 2 ^ 31 by omega), h4]
                    have hT : opT (U.2 0) i false pr q = (nxF (U.2 0), q) := if_pos c_146
                    have hO := opT_ok hok (i := i) (by omega) false pr q
                    obtain ⟨t, ht⟩ : ∃ t, opT (U.2 0) i false pr q = t := ⟨_, rfl⟩
                    obtain ⟨e1, e2⟩ : nxF (U.2 0) = t.1 ∧ q = t.2 := by rw [← ht, hT]; exact ⟨rfl, rfl⟩
                    rw [e1] at hw
                    rw [ht] at hO
                    refine r_toe e2 ?_
                    replace hw : WH G s (moW G mo (mR U 0 t.1) ++ X) H locs := hw
                    have htn := hO.1.2.1
                    refine lv_istore (lv' := [(7, .int t.2), (6, .int ((U.2 0) 2)), (0, .ref (mo 0)), (1, .int (nI i)), (2, .int (bI false)), (3, .int pr), (4, .int q), (5, .int mi)]) C.1 C.2.1 dX12_doPlace_163 hl (by decide) rfl (fun ls hl => ?_)
                    refine lv_iload C.1 C.2.1 dX12_doPlace_165 (lv_at hl 7 rfl) ?_
                    refine lv_iconst (v := -1) C.1 C.2.1 dX12_doPlace_167 (by decide) ?_
                    refine lv_icmp_ne (tgt := 177) C.1 C.2.1 dX12_doPlace_168 (by decide) (fun c_168 => ?_) (fun c_168 => ?_)
                    · refine lv_iload C.1 C.2.1 dX12_doPlace_177 (lv_at hl 0 rfl) ?_
                      refine lv_if_le (tgt := 275) C.1 C.2.1 dX12_doPlace_179 (by decide) (fun c_179 => ?_) (fun c_179 => ?_)
                      · refine lv_iload C.1 C.2.1 dX12_doPlace_275 (lv_at hl 1 rfl) ?_
                        exact r_iret C hw rfl rfl () (by rw [opM_g (by omega) hC ht, opE, if_neg c_168, if_pos c_179]) (by rw [opM_g (by omega) hC ht, opE, if_neg c_168, if_pos c_179]) (Nat.le_of_ble_eq_true rfl) (Nat.le_of_ble_eq_true rfl) dX12_doPlace_277
                      · refine lv_bipush (v := 21) C.1 C.2.1 dX12_doPlace_182 (by decide) ?_
                        refine lv_bipush (v := 6) C.1 C.2.1 dX12_doPlace_184 (by decide) ?_
                        refine lv_aload_n C.1 C.2.1 dX12_doPlace_186 rfl (lv_at hl 2 rfl) ?_
                        refine r_get C hw 0 rfl rfl in_X12 0 (by decide) fl_X12_9 rfl (v := .ref (mo 1)) rfl dX12_doPlace_187 ?_
                        refine lv_iconst (v := 1) C.1 C.2.1 dX12_doPlace_190 (by decide) ?_
                        refine r_iald C hw 1 rfl (vp_in_nI (n := 1) (by omega) (by decide)) dX12_doPlace_191 ?_
                        refine r_toe (show _ = t.1 1 from congrArg t.1 (nI_clamp (n := 1) (by omega))) ?_
                        refine r_toe (show _ = nI (nF t.1) from hO.1.1) ?_
                        refine lv_imul C.1 C.2.1 dX12_doPlace_192 ?_
                        refine r_toe (pk_mul 6 (nF t.1)) ?_
                        refine lv_iadd C.1 C.2.1 dX12_doPlace_193 ?_
                        refine r_toe (nI_add 21 (6 * (nF t.1))) ?_
                        refine lv_istore (lv' := [(8, .int (nI (21 + (6 * (nF t.1))))), (7, .int t.2), (6, .int ((U.2 0) 2)), (0, .ref (mo 0)), (1, .int (nI i)), (2, .int (bI false)), (3, .int pr), (4, .int q), (5, .int mi)]) C.1 C.2.1 dX12_doPlace_194 hl (by decide) rfl (fun ls hl => ?_)
                        refine lv_aload_n C.1 C.2.1 dX12_doPlace_196 rfl (lv_at hl 3 rfl) ?_
                        refine r_get C hw 0 rfl rfl in_X12 0 (by decide) fl_X12_9 rfl (v := .ref (mo 1)) rfl dX12_doPlace_197 ?_
                        refine lv_iload C.1 C.2.1 dX12_doPlace_200 (lv_at hl 0 rfl) ?_
                        refine lv_iload C.1 C.2.1 dX12_doPlace_202 (lv_at hl 2 rfl) ?_
                        refine r_iast C hw 1 rfl (vp_in_nI (n := (21 + (6 * (nF t.1)))) (by omega) (by decide)) (w' := moW G mo (mR (mR U 0 t.1) 0 (upd t.1 (21 + (6 * (nF t.1))) ((U.2 0) 2))) ++ X) (by rw [show (nI (21 + (6 * (nF t.1)))).toNatClampNeg = (21 + (6 * (nF t.1))) from nI_clamp (by omega)]; rfl) dX12_doPlace_204 (fun H locs hw => ?_)
                        refine lv_aload_n C.1 C.2.1 dX12_doPlace_205 rfl (lv_at hl 3 rfl) ?_
                        refine r_get C hw 0 rfl rfl in_X12 0 (by decide) fl_X12_9 rfl (v := .ref (mo 1)) rfl dX12_doPlace_206 ?_
                        refine lv_iload C.1 C.2.1 dX12_doPlace_209 (lv_at hl 0 rfl) ?_
                        refine lv_iconst (v := 1) C.1 C.2.1 dX12_doPlace_211 (by decide) ?_
                        refine lv_iadd C.1 C.2.1 dX12_doPlace_212 ?_
                        refine r_toe (nI_add (21 + (6 * (nF t.1))) 1) ?_
                        refine lv_iload_n C.1 C.2.1 dX12_doPlace_213 rfl (lv_at hl 4 rfl) ?_
                        refine r_iast C hw 1 rfl (vp_in_nI (n := ((21 + (6 * (nF t.1))) + 1)) (by omega) (by decide)) (w' := moW G mo (mR (mR (mR U 0 t.1) 0 (upd t.1 (21 + (6 * (nF t.1))) ((U.2 0) 2))) 0 (upd (upd t.1 (21 + (6 * (nF t.1))) ((U.2 0) 2)) ((21 + (6 * (nF t.1))) + 1) (nI i))) ++ X) (by rw [show (nI ((21 + (6 * (nF t.1))) + 1)).toNatClampNeg = ((21 + (6 * (nF t.1))) + 1) from nI_clamp (by omega)]; rfl) dX12_doPlace_214 (fun H locs hw => ?_)
                        refine lv_aload_n C.1 C.2.1 dX12_doPlace_215 rfl (lv_at hl 3 rfl) ?_
                        refine r_get C hw 0 rfl rfl in_X12 0 (by decide) fl_X12_9 rfl (v := .ref (mo 1)) rfl dX12_doPlace_216 ?_
                        refine lv_iload C.1 C.2.1 dX12_doPlace_219 (lv_at hl 0 rfl) ?_
                        refine lv_iconst (v := 2) C.1 C.2.1 dX12_doPlace_221 (by decide) ?_
                        refine lv_iadd C.1 C.2.1 dX12_doPlace_222 ?_
                        refine r_toe (nI_add (21 + (6 * (nF t.1))) 2) ?_
                        refine lv_iload_n C.1 C.2.1 dX12_doPlace_223 rfl (lv_at hl 5 rfl) ?_
                        refine lv_if_eq (tgt := 231) C.1 C.2.1 dX12_doPlace_224 (by decide) (fun c_224 => ?_) (fun c_224 => absurd (by decide) c_224)
                        refine lv_iconst (v := 0) C.1 C.2.1 dX12_doPlace_231 (by decide) ?_
                        refine r_iast C hw 1 rfl (vp_in_nI (n := ((21 + (6 * (nF t.1))) + 2)) (by omega) (by decide)) (w' := moW G mo (mR (mR (mR (mR U 0 t.1) 0 (upd t.1 (21 + (6 * (nF t.1))) ((U.2 0) 2))) 0 (upd (upd t.1 (21 + (6 * (nF t.1))) ((U.2 0) 2)) ((21 + (6 * (nF t.1))) + 1) (nI i))) 0 (upd (upd (upd t.1 (21 + (6 * (nF t.1))) ((U.2 0) 2)) ((21 + (6 * (nF t.1))) + 1) (nI i)) ((21 + (6 * (nF t.1))) + 2) 0)) ++ X) (by rw [show (nI ((21 + (6 * (nF t.1))) + 2)).toNatClampNeg = ((21 + (6 * (nF t.1))) + 2) from nI_clamp (by omega)]; rfl) dX12_doPlace_232 (fun H locs hw => ?_)
                        refine lv_aload_n C.1 C.2.1 dX12_doPlace_233 rfl (lv_at hl 3 rfl) ?_
                        refine r_get C hw 0 rfl rfl in_X12 0 (by decide) fl_X12_9 rfl (v := .ref (mo 1)) rfl dX12_doPlace_234 ?_
                        refine lv_iload C.1 C.2.1 dX12_doPlace_237 (lv_at hl 0 rfl) ?_
                        refine lv_iconst (v := 3) C.1 C.2.1 dX12_doPlace_239 (by decide) ?_
                        refine lv_iadd C.1 C.2.1 dX12_doPlace_240 ?_
                        refine r_toe (nI_add (21 + (6 * (nF t.1))) 3) ?_
                        refine lv_iload_n C.1 C.2.1 dX12_doPlace_241 rfl (lv_at hl 6 rfl) ?_
                        refine r_iast C hw 1 rfl (vp_in_nI (n := ((21 + (6 * (nF t.1))) + 3)) (by omega) (by decide)) (w' := moW G mo (mR (mR (mR (mR (mR U 0 t.1) 0 (upd t.1 (21 + (6 * (nF t.1))) ((U.2 0) 2))) 0 (upd (upd t.1 (21 + (6 * (nF t.1))) ((U.2 0) 2)) ((21 + (6 * (nF t.1))) + 1) (nI i))) 0 (upd (upd (upd t.1 (21 + (6 * (nF t.1))) ((U.2 0) 2)) ((21 + (6 * (nF t.1))) + 1) (nI i)) ((21 + (6 * (nF t.1))) + 2) 0)) 0 (upd (upd (upd (upd t.1 (21 + (6 * (nF t.1))) ((U.2 0) 2)) ((21 + (6 * (nF t.1))) + 1) (nI i)) ((21 + (6 * (nF t.1))) + 2) 0) ((21 + (6 * (nF t.1))) + 3) pr)) ++ X) (by rw [show (nI ((21 + (6 * (nF t.1))) + 3)).toNatClampNeg = ((21 + (6 * (nF t.1))) + 3) from nI_clamp (by omega)]; rfl) dX12_doPlace_242 (fun H locs hw => ?_)
                        refine lv_aload_n C.1 C.2.1 dX12_doPlace_243 rfl (lv_at hl 3 rfl) ?_
                        refine r_get C hw 0 rfl rfl in_X12 0 (by decide) fl_X12_9 rfl (v := .ref (mo 1)) rfl dX12_doPlace_244 ?_
                        refine lv_iload C.1 C.2.1 dX12_doPlace_247 (lv_at hl 0 rfl) ?_
                        refine lv_iconst (v := 4) C.1 C.2.1 dX12_doPlace_249 (by decide) ?_
                        refine lv_iadd C.1 C.2.1 dX12_doPlace_250 ?_
                        refine r_toe (nI_add (21 + (6 * (nF t.1))) 4) ?_
                        refine lv_iload C.1 C.2.1 dX12_doPlace_251 (lv_at hl 1 rfl) ?_
                        refine r_iast C hw 1 rfl (vp_in_nI (n := ((21 + (6 * (nF t.1))) + 4)) (by omega) (by decide)) (w' := moW G mo (mR (mR (mR (mR (mR (mR U 0 t.1) 0 (upd t.1 (21 + (6 * (nF t.1))) ((U.2 0) 2))) 0 (upd (upd t.1 (21 + (6 * (nF t.1))) ((U.2 0) 2)) ((21 + (6 * (nF t.1))) + 1) (nI i))) 0 (upd (upd (upd t.1 (21 + (6 * (nF t.1))) ((U.2 0) 2)) ((21 + (6 * (nF t.1))) + 1) (nI i)) ((21 + (6 * (nF t.1))) + 2) 0)) 0 (upd (upd (upd (upd t.1 (21 + (6 * (nF t.1))) ((U.2 0) 2)) ((21 + (6 * (nF t.1))) + 1) (nI i)) ((21 + (6 * (nF t.1))) + 2) 0) ((21 + (6 * (nF t.1))) + 3) pr)) 0 (upd (upd (upd (upd (upd t.1 (21 + (6 * (nF t.1))) ((U.2 0) 2)) ((21 + (6 * (nF t.1))) + 1) (nI i)) ((21 + (6 * (nF t.1))) + 2) 0) ((21 + (6 * (nF t.1))) + 3) pr) ((21 + (6 * (nF t.1))) + 4) t.2)) ++ X) (by rw [show (nI ((21 + (6 * (nF t.1))) + 4)).toNatClampNeg = ((21 + (6 * (nF t.1))) + 4) from nI_clamp (by omega)]; rfl) dX12_doPlace_253 (fun H locs hw => ?_)
                        refine lv_aload_n C.1 C.2.1 dX12_doPlace_254 rfl (lv_at hl 3 rfl) ?_
                        refine r_get C hw 0 rfl rfl in_X12 0 (by decide) fl_X12_9 rfl (v := .ref (mo 1)) rfl dX12_doPlace_255 ?_
                        refine lv_iload C.1 C.2.1 dX12_doPlace_258 (lv_at hl 0 rfl) ?_
                        refine lv_iconst (v := 5) C.1 C.2.1 dX12_doPlace_260 (by decide) ?_
                        refine lv_iadd C.1 C.2.1 dX12_doPlace_261 ?_
                        refine r_toe (nI_add (21 + (6 * (nF t.1))) 5) ?_
                        refine lv_iload C.1 C.2.1 dX12_doPlace_262 (lv_at hl 8 rfl) ?_
                        refine r_iast C hw 1 rfl (vp_in_nI (n := ((21 + (6 * (nF t.1))) + 5)) (by omega) (by decide)) (w' := moW G mo (mR (mR (mR (mR (mR (mR (mR U 0 t.1) 0 (upd t.1 (21 + (6 * (nF t.1))) ((U.2 0) 2))) 0 (upd (upd t.1 (21 + (6 * (nF t.1))) ((U.2 0) 2)) ((21 + (6 * (nF t.1))) + 1) (nI i))) 0 (upd (upd (upd t.1 (21 + (6 * (nF t.1))) ((U.2 0) 2)) ((21 + (6 * (nF t.1))) + 1) (nI i)) ((21 + (6 * (nF t.1))) + 2) 0)) 0 (upd (upd (upd (upd t.1 (21 + (6 * (nF t.1))) ((U.2 0) 2)) ((21 + (6 * (nF t.1))) + 1) (nI i)) ((21 + (6 * (nF t.1))) + 2) 0) ((21 + (6 * (nF t.1))) + 3) pr)) 0 (upd (upd (upd (upd (upd t.1 (21 + (6 * (nF t.1))) ((U.2 0) 2)) ((21 + (6 * (nF t.1))) + 1) (nI i)) ((21 + (6 * (nF t.1))) + 2) 0) ((21 + (6 * (nF t.1))) + 3) pr) ((21 + (6 * (nF t.1))) + 4) t.2)) 0 (upd (upd (upd (upd (upd (upd t.1 (21 + (6 * (nF t.1))) ((U.2 0) 2)) ((21 + (6 * (nF t.1))) + 1) (nI i)) ((21 + (6 * (nF t.1))) + 2) 0) ((21 + (6 * (nF t.1))) + 3) pr) ((21 + (6 * (nF t.1))) + 4) t.2) ((21 + (6 * (nF t.1))) + 5) mi)) ++ X) (by rw [show (nI ((21 + (6 * (nF t.1))) + 5)).toNatClampNeg = ((21 + (6 * (nF t.1))) + 5) from nI_clamp (by omega)]; rfl) dX12_doPlace_264 (fun H locs hw => ?_)
                        refine lv_aload_n C.1 C.2.1 dX12_doPlace_265 rfl (lv_at hl 3 rfl) ?_
                        refine r_get C hw 0 rfl rfl in_X12 0 (by decide) fl_X12_9 rfl (v := .ref (mo 1)) rfl dX12_doPlace_266 ?_
                        refine lv_iconst (v := 1) C.1 C.2.1 dX12_doPlace_269 (by decide) ?_
                        refine lv_dup2_11 C.1 C.2.1 dX12_doPlace_270 rfl rfl ?_
                        refine r_iald C hw 1 rfl (vp_in_nI (n := 1) (by omega) (by decide)) dX12_doPlace_271 ?_
                        refine r_toe (show _ = (upd (upd (upd (upd (upd (upd t.1 (21 + (6 * (nF t.1))) ((U.2 0) 2)) ((21 + (6 * (nF t.1))) + 1) (nI i)) ((21 + (6 * (nF t.1))) + 2) 0) ((21 + (6 * (nF t.1))) + 3) pr) ((21 + (6 * (nF t.1))) + 4) t.2) ((21 + (6 * (nF t.1))) + 5) mi) 1 from congrArg (upd (upd (upd (upd (upd (upd t.1 (21 + (6 * (nF t.1))) ((U.2 0) 2)) ((21 + (6 * (nF t.1))) + 1) (nI i)) ((21 + (6 * (nF t.1))) + 2) 0) ((21 + (6 * (nF t.1))) + 3) pr) ((21 + (6 * (nF t.1))) + 4) t.2) ((21 + (6 * (nF t.1))) + 5) mi) (nI_clamp (n := 1) (by omega))) ?_
                        refine r_toe (show _ = nI (nF t.1) from (opV_1 (f := t.1) (num := U.2 0 2) (i := i) (b := false) (pr := pr) (q := t.2) (mi := mi)).trans hO.1.1) ?_
                        refine lv_iconst (v := 1) C.1 C.2.1 dX12_doPlace_272 (by decide) ?_
                        refine lv_iadd C.1 C.2.1 dX12_doPlace_273 ?_
                        refine r_toe (nI_add (nF t.1) 1) ?_
                        refine r_iast C hw 1 rfl (vp_in_nI (n := 1) (by omega) (by decide)) (w' := moW G mo (mR (mR (mR (mR (mR (mR (mR (mR U 0 t.1) 0 (upd t.1 (21 + (6 * (nF t.1))) ((U.2 0) 2))) 0 (upd (upd t.1 (21 + (6 * (nF t.1))) ((U.2 0) 2)) ((21 + (6 * (nF t.1))) + 1) (nI i))) 0 (upd (upd (upd t.1 (21 + (6 * (nF t.1))) ((U.2 0) 2)) ((21 + (6 * (nF t.1))) + 1) (nI i)) ((21 + (6 * (nF t.1))) + 2) 0)) 0 (upd (upd (upd (upd t.1 (21 + (6 * (nF t.1))) ((U.2 0) 2)) ((21 + (6 * (nF t.1))) + 1) (nI i)) ((21 + (6 * (nF t.1))) + 2) 0) ((21 + (6 * (nF t.1))) + 3) pr)) 0 (upd (upd (upd (upd (upd t.1 (21 + (6 * (nF t.1))) ((U.2 0) 2)) ((21 + (6 * (nF t.1))) + 1) (nI i)) ((21 + (6 * (nF t.1))) + 2) 0) ((21 + (6 * (nF t.1))) + 3) pr) ((21 + (6 * (nF t.1))) + 4) t.2)) 0 (upd (upd (upd (upd (upd (upd t.1 (21 + (6 * (nF t.1))) ((U.2 0) 2)) ((21 + (6 * (nF t.1))) + 1) (nI i)) ((21 + (6 * (nF t.1))) + 2) 0) ((21 + (6 * (nF t.1))) + 3) pr) ((21 + (6 * (nF t.1))) + 4) t.2) ((21 + (6 * (nF t.1))) + 5) mi)) 0 (upd (upd (upd (upd (upd (upd (upd t.1 (21 + (6 * (nF t.1))) ((U.2 0) 2)) ((21 + (6 * (nF t.1))) + 1) (nI i)) ((21 + (6 * (nF t.1))) + 2) 0) ((21 + (6 * (nF t.1))) + 3) pr) ((21 + (6 * (nF t.1))) + 4) t.2) ((21 + (6 * (nF t.1))) + 5) mi) 1 (nI ((nF t.1) + 1)))) ++ X) rfl dX12_doPlace_274 (fun H locs hw => ?_)
                        replace hw : WH G s (moW G mo (mR U 0 (opW t.1 (U.2 0 2) i false pr t.2 mi)) ++ X) H locs := hw.to (by simp only [mR_mR]; rfl)
                        refine lv_iload C.1 C.2.1 dX12_doPlace_275 (lv_at hl 2 rfl) ?_
                        exact r_iret C hw rfl rfl () (by rw [opM_g (by omega) hC ht, opE, if_neg c_168, if_neg c_179]) (by rw [opM_g (by omega) hC ht, opE, if_neg c_168, if_neg c_179]) (Nat.le_of_ble_eq_true rfl) (Nat.le_of_ble_eq_true rfl) dX12_doPlace_277
                    · refine lv_iload C.1 C.2.1 dX12_doPlace_171 (lv_at hl 6 rfl) ?_
                      refine lv_iload C.1 C.2.1 dX12_doPlace_173 (lv_at hl 0 rfl) ?_
                      refine lv_isub C.1 C.2.1 dX12_doPlace_175 ?_
                      exact r_iret C hw rfl rfl () (by rw [opM_g (by omega) hC ht, opE, if_pos c_168]) (by rw [opM_g (by omega) hC ht, opE, if_pos c_168]) (Nat.le_of_ble_eq_true rfl) (Nat.le_of_ble_eq_true rfl) dX12_doPlace_176
                · refine lv_aload_n C.1 C.2.1 dX12_doPlace_115 rfl (lv_at hl 0 rfl) ?_
                  refine lv_iconst (v := 4) C.1 C.2.1 dX12_doPlace_116 (by decide) ?_
                  refine r_vi C hw (k12_fails hF (mo := mo) (U := U) (X := X) 4) ml_X12_90 yf_X12_fails 0 rfl rfl (As := [.int 4]) rfl rfl ⟨Nat.le_of_ble_eq_true rfl, Nat.le_of_ble_eq_true rfl⟩ ⟨Nat.le_of_ble_eq_true rfl, Nat.le_of_ble_eq_true rfl⟩ hl.1 (Nat.le_of_ble_eq_true rfl) dX12_doPlace_117 (fun r_117 _ H locs hp_117 hw => ?_)
                  obtain rfl : r_117 = 0 := hp_117
                  replace hw : WH G s (moW G mo (mI U 2 4) ++ X) H locs := hw
                  exact r_iret C hw rfl rfl () (by rw [opM_f (k := 4) (by simp [opC, b_5, b_21, b_32, c_39, c_51, c_75, c_112, nI_clamp (show i < 2 ^ 31 by omega), Int32.not_le.mp c_112]) (by decide)]) (by rw [opM_f (k := 4) (by simp [opC, b_5, b_21, b_32, c_39, c_51, c_75, c_112, nI_clamp (show i < 2 ^ 31 by omega), Int32.not_le.mp c_112]) (by decide)]) (Nat.le_of_ble_eq_true rfl) (Nat.le_of_ble_eq_true rfl) dX12_doPlace_120
              · obtain rfl : b = true := bI_ne0.mp c_85
                clear c_85
                replace hl : lv_has ls 9 [(0, .ref (mo 0)), (1, .int (nI i)), (2, .int (bI true)), (3, .int pr), (4, .int q), (5, .int mi)] := hl
                refine lv_aload_n C.1 C.2.1 dX12_doPlace_88 rfl (lv_at hl 0 rfl) ?_
                refine lv_iload_n C.1 C.2.1 dX12_doPlace_89 rfl (lv_at hl 1 rfl) ?_
                refine lv_iconst (v := 0) C.1 C.2.1 dX12_doPlace_90 (by decide) ?_
                refine r_vi C hw (k12_free_0 hF (mo := mo) (U := U) (X := X) (n := (nF (U.2 0))) hok.1 hok.2.1 (i := i) (by omega)) ml_X12_94 yf_X12_free 0 rfl rfl (As := [.int (nI i), .int 0]) rfl rfl ⟨Nat.le_of_ble_eq_true rfl, Nat.le_of_ble_eq_true rfl⟩ ⟨Nat.le_of_ble_eq_true rfl, Nat.le_of_ble_eq_true rfl⟩ hl.1 (Nat.le_of_ble_eq_true rfl) dX12_doPlace_91 (fun r_91 _ H locs hp_91 hw => ?_)
                obtain rfl : r_91 = fqR (U.2 0) i true (nF (U.2 0)) := hp_91
                replace hw : WH G s (moW G mo U ++ X) H locs := hw
                refine lv_iload_n C.1 C.2.1 dX12_doPlace_94 rfl (lv_at hl 3 rfl) ?_
                refine lv_iload C.1 C.2.1 dX12_doPlace_95 (lv_at hl 4 rfl) ?_
                refine lv_imul C.1 C.2.1 dX12_doPlace_97 ?_
                refine lv_icmp_ge (tgt := 121) C.1 C.2.1 dX12_doPlace_98 (by decide) (fun c_98 => ?_) (fun c_98 => ?_)
                · refine lv_aload_n C.1 C.2.1 dX12_doPlace_121 rfl (lv_at hl 0 rfl) ?_
                  refine r_get C hw 0 rfl rfl in_X12 0 (by decide) fl_X12_9 rfl (v := .ref (mo 1)) rfl dX12_doPlace_122 ?_
                  refine lv_iconst (v := 2) C.1 C.2.1 dX12_doPlace_125 (by decide) ?_
                  refine r_iald C hw 1 rfl (vp_in_nI (n := 2) (by omega) (by decide)) dX12_doPlace_126 ?_
                  refine r_toe (show _ = (U.2 0) 2 from congrArg (U.2 0) (nI_clamp (n := 2) (by omega))) ?_
                  refine lv_istore (lv' := [(6, .int ((U.2 0) 2)), (0, .ref (mo 0)), (1, .int (nI i)), (2, .int (bI true)), (3, .int pr), (4, .int q), (5, .int mi)]) C.1 C.2.1 dX12_doPlace_127 hl (by decide) rfl (fun ls hl => ?_)
                  refine lv_aload_n C.1 C.2.1 dX12_doPlace_129 rfl (lv_at hl 1 rfl) ?_
                  refine r_get C hw 0 rfl rfl in_X12 0 (by decide) fl_X12_9 rfl (v := .ref (mo 1)) rfl dX12_doPlace_130 ?_
                  refine lv_iconst (v := 2) C.1 C.2.1 dX12_doPlace_133 (by decide) ?_
                  refine lv_dup2_11 C.1 C.2.1 dX12_doPlace_134 rfl rfl ?_
                  refine r_iald C hw 1 rfl (vp_in_nI (n := 2) (by omega) (by decide)) dX12_doPlace_135 ?_
                  refine r_toe (show _ = (U.2 0) 2 from congrArg (U.2 0) (nI_clamp (n := 2) (by omega))) ?_
                  refine lv_iconst (v := 1) C.1 C.2.1 dX12_doPlace_136 (by decide) ?_
                  refine lv_iadd C.1 C.2.1 dX12_doPlace_137 ?_
                  refine r_iast C hw 1 rfl (vp_in_nI (n := 2) (by omega) (by decide)) (w' := moW G mo (mR U 0 (upd (U.2 0) 2 (((U.2 0) 2) + 1))) ++ X) rfl dX12_doPlace_138 (fun H locs hw => ?_)
                  replace hw : WH G s (moW G mo (mR U 0 (nxF (U.2 0))) ++ X) H locs := hw
                  refine lv_aload_n C.1 C.2.1 dX12_doPlace_139 rfl (lv_at hl 1 rfl) ?_
                  refine r_get C hw 0 rfl rfl in_X12 0 (by decide) fl_X12_9 rfl (v := .ref (mo 1)) rfl dX12_doPlace_140 ?_
                  refine lv_iconst (v := 4) C.1 C.2.1 dX12_doPlace_143 (by decide) ?_
                  refine r_iald C hw 1 rfl (vp_in_nI (n := 4) (by omega) (by decide)) dX12_doPlace_144 ?_
                  refine r_toe (show _ = (nxF (U.2 0)) 4 from congrArg (nxF (U.2 0)) (nI_clamp (n := 4) (by omega))) ?_
                  refine lv_iconst (v := 1) C.1 C.2.1 dX12_doPlace_145 (by decide) ?_
                  refine lv_icmp_ne (tgt := 154) C.1 C.2.1 dX12_doPlace_146 (by decide) (fun c_146 => ?_) (fun c_146 => ?_)
                  · refine lv_aload_n C.1 C.2.1 dX12_doPlace_154 rfl (lv_at hl 1 rfl) ?_
                    refine lv_iload_n C.1 C.2.1 dX12_doPlace_155 rfl (lv_at hl 2 rfl) ?_
                    refine lv_iload_n C.1 C.2.1 dX12_doPlace_156 rfl (lv_at hl 3 rfl) ?_
                    refine lv_iload_n C.1 C.2.1 dX12_doPlace_157 rfl (lv_at hl 4 rfl) ?_
                    refine lv_iload C.1 C.2.1 dX12_doPlace_158 (lv_at hl 5 rfl) ?_
                    refine r_vi C hw (k12_trades hF (mo := mo) (U := (mR U 0 (nxF (U.2 0)))) (X := X) (show okF (nxF (U.2 0)) from (okF_nx hok).1) (i := i) (by omega) true pr q) ml_X12_97 yf_X12_trades 0 rfl rfl (As := [.int (nI i), .int (bI true), .int pr, .int q]) rfl rfl ⟨Nat.le_of_ble_eq_true rfl, Nat.le_of_ble_eq_true rfl⟩ ⟨Nat.le_of_ble_eq_true rfl, Nat.le_of_ble_eq_true rfl⟩ hl.1 (Nat.le_of_ble_eq_true rfl) dX12_doPlace_160 (fun r_160 _ H locs hp_160 hw => ?_)
                    obtain rfl : r_160 = (mtR true i pr 21 (nxF (U.2 0)) q).2 := hp_160
                    replace hw : WH G s (moW G mo (mR (mR U 0 (nxF (U.2 0))) 0 (mtR true i pr 21 (nxF (U.2 0)) q).1) ++ X) H locs := hw
                    have h4 := Int32.not_lt.mpr c_98
                    have hC : opC (U.2 0) (nI i) true pr q mi = 0 := by simp [opC, b_5, b_21, b_32, c_39, c_51, c_75, c_98, nI_clamp (show i < 2 ^ 31 by omega), h4]
                    have hT : opT (U.2 0) i true pr q = mtR true i pr 21 (nxF (U.2 0)) q := if_neg c_146
                    have hO := opT_ok hok (i := i) (by omega) true pr q
                    rw [hT] at hO
                    obtain ⟨t, ht⟩ : ∃ t, mtR true i pr 21 (nxF (U.2 0)) q = t := ⟨_, rfl⟩
                    rw [ht] at hw hO hT
                    refine r_toe (congrArg Prod.snd ht) ?_
                    replace ht := hT
                    replace hw : WH G s (moW G mo (mR U 0 t.1) ++ X) H locs := hw.to (by rw [mR_mR])
                    have htn := hO.1.2.1
                    refine lv_istore (lv' := [(7, .int t.2), (6, .int ((U.2 0) 2)), (0, .ref (mo 0)), (1, .int (nI i)), (2, .int (bI true)), (3, .int pr), (4, .int q), (5, .int mi)]) C.1 C.2.1 dX12_doPlace_163 hl (by decide) rfl (fun ls hl => ?_)
                    refine lv_iload C.1 C.2.1 dX12_doPlace_165 (lv_at hl 7 rfl) ?_
                    refine lv_iconst (v := -1) C.1 C.2.1 dX12_doPlace_167 (by decide) ?_
                    refine lv_icmp_ne (tgt := 177) C.1 C.2.1 dX12_doPlace_168 (by decide) (fun c_168 => ?_) (fun c_168 => ?_)
                    · refine lv_iload C.1 C.2.1 dX12_doPlace_177 (lv_at hl 0 rfl) ?_
                      refine lv_if_le (tgt := 275) C.1 C.2.1 dX12_doPlace_179 (by decide) (fun c_179 => ?_) (fun c_179 => ?_)
                      · refine lv_iload C.1 C.2.1 dX12_doPlace_275 (lv_at hl 1 rfl) ?_
                        exact r_iret C hw rfl rfl () (by rw [opM_g (by omega) hC ht, opE, if_neg c_168, if_pos c_179]) (by rw [opM_g (by omega) hC ht, opE, if_neg c_168, if_pos c_179]) (Nat.le_of_ble_eq_true rfl) (Nat.le_of_ble_eq_true rfl) dX12_doPlace_277
                      · refine lv_bipush (v := 21) C.1 C.2.1 dX12_doPlace_182 (by decide) ?_
                        refine lv_bipush (v := 6) C.1 C.2.1 dX12_doPlace_184 (by decide) ?_
                        refine lv_aload_n C.1 C.2.1 dX12_doPlace_186 rfl (lv_at hl 2 rfl) ?_
                        refine r_get C hw 0 rfl rfl in_X12 0 (by decide) fl_X12_9 rfl (v := .ref (mo 1)) rfl dX12_doPlace_187 ?_
                        refine lv_iconst (v := 1) C.1 C.2.1 dX12_doPlace_190 (by decide) ?_
                        refine r_iald C hw 1 rfl (vp_in_nI (n := 1) (by omega) (by decide)) dX12_doPlace_191 ?_
                        refine r_toe (show _ = t.1 1 from congrArg t.1 (nI_clamp (n := 1) (by omega))) ?_
                        refine r_toe (show _ = nI (nF t.1) from hO.1.1) ?_
                        refine lv_imul C.1 C.2.1 dX12_doPlace_192 ?_
                        refine r_toe (pk_mul 6 (nF t.1)) ?_
                        refine lv_iadd C.1 C.2.1 dX12_doPlace_193 ?_
                        refine r_toe (nI_add 21 (6 * (nF t.1))) ?_
                        refine lv_istore (lv' := [(8, .int (nI (21 + (6 * (nF t.1))))), (7, .int t.2), (6, .int ((U.2 0) 2)), (0, .ref (mo 0)), (1, .int (nI i)), (2, .int (bI true)), (3, .int pr), (4, .int q), (5, .int mi)]) C.1 C.2.1 dX12_doPlace_194 hl (by decide) rfl (fun ls hl => ?_)
                        refine lv_aload_n C.1 C.2.1 dX12_doPlace_196 rfl (lv_at hl 3 rfl) ?_
                        refine r_get C hw 0 rfl rfl in_X12 0 (by decide) fl_X12_9 rfl (v := .ref (mo 1)) rfl dX12_doPlace_197 ?_
                        refine lv_iload C.1 C.2.1 dX12_doPlace_200 (lv_at hl 0 rfl) ?_
                        refine lv_iload C.1 C.2.1 dX12_doPlace_202 (lv_at hl 2 rfl) ?_
                        refine r_iast C hw 1 rfl (vp_in_nI (n := (21 + (6 * (nF t.1)))) (by omega) (by decide)) (w' := moW G mo (mR (mR U 0 t.1) 0 (upd t.1 (21 + (6 * (nF t.1))) ((U.2 0) 2))) ++ X) (by rw [show (nI (21 + (6 * (nF t.1)))).toNatClampNeg = (21 + (6 * (nF t.1))) from nI_clamp (by omega)]; rfl) dX12_doPlace_204 (fun H locs hw => ?_)
                        refine lv_aload_n C.1 C.2.1 dX12_doPlace_205 rfl (lv_at hl 3 rfl) ?_
                        refine r_get C hw 0 rfl rfl in_X12 0 (by decide) fl_X12_9 rfl (v := .ref (mo 1)) rfl dX12_doPlace_206 ?_
                        refine lv_iload C.1 C.2.1 dX12_doPlace_209 (lv_at hl 0 rfl) ?_
                        refine lv_iconst (v := 1) C.1 C.2.1 dX12_doPlace_211 (by decide) ?_
                        refine lv_iadd C.1 C.2.1 dX12_doPlace_212 ?_
                        refine r_toe (nI_add (21 + (6 * (nF t.1))) 1) ?_
                        refine lv_iload_n C.1 C.2.1 dX12_doPlace_213 rfl (lv_at hl 4 rfl) ?_
                        refine r_iast C hw 1 rfl (vp_in_nI (n := ((21 + (6 * (nF t.1))) + 1)) (by omega) (by decide)) (w' := moW G mo (mR (mR (mR U 0 t.1) 0 (upd t.1 (21 + (6 * (nF t.1))) ((U.2 0) 2))) 0 (upd (upd t.1 (21 + (6 * (nF t.1))) ((U.2 0) 2)) ((21 + (6 * (nF t.1))) + 1) (nI i))) ++ X) (by rw [show (nI ((21 + (6 * (nF t.1))) + 1)).toNatClampNeg = ((21 + (6 * (nF t.1))) + 1) from nI_clamp (by omega)]; rfl) dX12_doPlace_214 (fun H locs hw => ?_)
                        refine lv_aload_n C.1 C.2.1 dX12_doPlace_215 rfl (lv_at hl 3 rfl) ?_
                        refine r_get C hw 0 rfl rfl in_X12 0 (by decide) fl_X12_9 rfl (v := .ref (mo 1)) rfl dX12_doPlace_216 ?_
                        refine lv_iload C.1 C.2.1 dX12_doPlace_219 (lv_at hl 0 rfl) ?_
                        refine lv_iconst (v := 2) C.1 C.2.1 dX12_doPlace_221 (by decide) ?_
                        refine lv_iadd C.1 C.2.1 dX12_doPlace_222 ?_
                        refine r_toe (nI_add (21 + (6 * (nF t.1))) 2) ?_
                        refine lv_iload_n C.1 C.2.1 dX12_doPlace_223 rfl (lv_at hl 5 rfl) ?_
                        refine lv_if_eq (tgt := 231) C.1 C.2.1 dX12_doPlace_224 (by decide) (fun c_224 => absurd c_224 (by decide)) (fun c_224 => ?_)
                        refine lv_iconst (v := 1) C.1 C.2.1 dX12_doPlace_227 (by decide) ?_
                        refine lv_goto (tgt := 232) C.1 C.2.1 dX12_doPlace_228 (by decide) ?_
                        refine r_iast C hw 1 rfl (vp_in_nI (n := ((21 + (6 * (nF t.1))) + 2)) (by omega) (by decide)) (w' := moW G mo (mR (mR (mR (mR U 0 t.1) 0 (upd t.1 (21 + (6 * (nF t.1))) ((U.2 0) 2))) 0 (upd (upd t.1 (21 + (6 * (nF t.1))) ((U.2 0) 2)) ((21 + (6 * (nF t.1))) + 1) (nI i))) 0 (upd (upd (upd t.1 (21 + (6 * (nF t.1))) ((U.2 0) 2)) ((21 + (6 * (nF t.1))) + 1) (nI i)) ((21 + (6 * (nF t.1))) + 2) 1)) ++ X) (by rw [show (nI ((21 + (6 * (nF t.1))) + 2)).toNatClampNeg = ((21 + (6 * (nF t.1))) + 2) from nI_clamp (by omega)]; rfl) dX12_doPlace_232 (fun H locs hw => ?_)
                        refine lv_aload_n C.1 C.2.1 dX12_doPlace_233 rfl (lv_at hl 3 rfl) ?_
                        refine r_get C hw 0 rfl rfl in_X12 0 (by decide) fl_X12_9 rfl (v := .ref (mo 1)) rfl dX12_doPlace_234 ?_
                        refine lv_iload C.1 C.2.1 dX12_doPlace_237 (lv_at hl 0 rfl) ?_
                        refine lv_iconst (v := 3) C.1 C.2.1 dX12_doPlace_239 (by decide) ?_
                        refine lv_iadd C.1 C.2.1 dX12_doPlace_240 ?_
                        refine r_toe (nI_add (21 + (6 * (nF t.1))) 3) ?_
                        refine lv_iload_n C.1 C.2.1 dX12_doPlace_241 rfl (lv_at hl 6 rfl) ?_
                        refine r_iast C hw 1 rfl (vp_in_nI (n := ((21 + (6 * (nF t.1))) + 3)) (by omega) (by decide)) (w' := moW G mo (mR (mR (mR (mR (mR U 0 t.1) 0 (upd t.1 (21 + (6 * (nF t.1))) ((U.2 0) 2))) 0 (upd (upd t.1 (21 + (6 * (nF t.1))) ((U.2 0) 2)) ((21 + (6 * (nF t.1))) + 1) (nI i))) 0 (upd (upd (upd t.1 (21 + (6 * (nF t.1))) ((U.2 0) 2)) ((21 + (6 * (nF t.1))) + 1) (nI i)) ((21 + (6 * (nF t.1))) + 2) 1)) 0 (upd (upd (upd (upd t.1 (21 + (6 * (nF t.1))) ((U.2 0) 2)) ((21 + (6 * (nF t.1))) + 1) (nI i)) ((21 + (6 * (nF t.1))) + 2) 1) ((21 + (6 * (nF t.1))) + 3) pr)) ++ X) (by rw [show (nI ((21 + (6 * (nF t.1))) + 3)).toNatClampNeg = ((21 + (6 * (nF t.1))) + 3) from nI_clamp (by omega)]; rfl) dX12_doPlace_242 (fun H locs hw => ?_)
                        refine lv_aload_n C.1 C.2.1 dX12_doPlace_243 rfl (lv_at hl 3 rfl) ?_
                        refine r_get C hw 0 rfl rfl in_X12 0 (by decide) fl_X12_9 rfl (v := .ref (mo 1)) rfl dX12_doPlace_244 ?_
                        refine lv_iload C.1 C.2.1 dX12_doPlace_247 (lv_at hl 0 rfl) ?_
                        refine lv_iconst (v := 4) C.1 C.2.1 dX12_doPlace_249 (by decide) ?_
                        refine lv_iadd C.1 C.2.1 dX12_doPlace_250 ?_
                        refine r_toe (nI_add (21 + (6 * (nF t.1))) 4) ?_
                        refine lv_iload C.1 C.2.1 dX12_doPlace_251 (lv_at hl 1 rfl) ?_
                        refine r_iast C hw 1 rfl (vp_in_nI (n := ((21 + (6 * (nF t.1))) + 4)) (by omega) (by decide)) (w' := moW G mo (mR (mR (mR (mR (mR (mR U 0 t.1) 0 (upd t.1 (21 + (6 * (nF t.1))) ((U.2 0) 2))) 0 (upd (upd t.1 (21 + (6 * (nF t.1))) ((U.2 0) 2)) ((21 + (6 * (nF t.1))) + 1) (nI i))) 0 (upd (upd (upd t.1 (21 + (6 * (nF t.1))) ((U.2 0) 2)) ((21 + (6 * (nF t.1))) + 1) (nI i)) ((21 + (6 * (nF t.1))) + 2) 1)) 0 (upd (upd (upd (upd t.1 (21 + (6 * (nF t.1))) ((U.2 0) 2)) ((21 + (6 * (nF t.1))) + 1) (nI i)) ((21 + (6 * (nF t.1))) + 2) 1) ((21 + (6 * (nF t.1))) + 3) pr)) 0 (upd (upd (upd (upd (upd t.1 (21 + (6 * (nF t.1))) ((U.2 0) 2)) ((21 + (6 * (nF t.1))) + 1) (nI i)) ((21 + (6 * (nF t.1))) + 2) 1) ((21 + (6 * (nF t.1))) + 3) pr) ((21 + (6 * (nF t.1))) + 4) t.2)) ++ X) (by rw [show (nI ((21 + (6 * (nF t.1))) + 4)).toNatClampNeg = ((21 + (6 * (nF t.1))) + 4) from nI_clamp (by omega)]; rfl) dX12_doPlace_253 (fun H locs hw => ?_)
                        refine lv_aload_n C.1 C.2.1 dX12_doPlace_254 rfl (lv_at hl 3 rfl) ?_
                        refine r_get C hw 0 rfl rfl in_X12 0 (by decide) fl_X12_9 rfl (v := .ref (mo 1)) rfl dX12_doPlace_255 ?_
                        refine lv_iload C.1 C.2.1 dX12_doPlace_258 (lv_at hl 0 rfl) ?_
                        refine lv_iconst (v := 5) C.1 C.2.1 dX12_doPlace_260 (by decide) ?_
                        refine lv_iadd C.1 C.2.1 dX12_doPlace_261 ?_
                        refine r_toe (nI_add (21 + (6 * (nF t.1))) 5) ?_
                        refine lv_iload C.1 C.2.1 dX12_doPlace_262 (lv_at hl 8 rfl) ?_
                        refine r_iast C hw 1 rfl (vp_in_nI (n := ((21 + (6 * (nF t.1))) + 5)) (by omega) (by decide)) (w' := moW G mo (mR (mR (mR (mR (mR (mR (mR U 0 t.1) 0 (upd t.1 (21 + (6 * (nF t.1))) ((U.2 0) 2))) 0 (upd (upd t.1 (21 + (6 * (nF t.1))) ((U.2 0) 2)) ((21 + (6 * (nF t.1))) + 1) (nI i))) 0 (upd (upd (upd t.1 (21 + (6 * (nF t.1))) ((U.2 0) 2)) ((21 + (6 * (nF t.1))) + 1) (nI i)) ((21 + (6 * (nF t.1))) + 2) 1)) 0 (upd (upd (upd (upd t.1 (21 + (6 * (nF t.1))) ((U.2 0) 2)) ((21 + (6 * (nF t.1))) + 1) (nI i)) ((21 + (6 * (nF t.1))) + 2) 1) ((21 + (6 * (nF t.1))) + 3) pr)) 0 (upd (upd (upd (upd (upd t.1 (21 + (6 * (nF t.1))) ((U.2 0) 2)) ((21 + (6 * (nF t.1))) + 1) (nI i)) ((21 + (6 * (nF t.1))) + 2) 1) ((21 + (6 * (nF t.1))) + 3) pr) ((21 + (6 * (nF t.1))) + 4) t.2)) 0 (upd (upd (upd (upd (upd (upd t.1 (21 + (6 * (nF t.1))) ((U.2 0) 2)) ((21 + (6 * (nF t.1))) + 1) (nI i)) ((21 + (6 * (nF t.1))) + 2) 1) ((21 + (6 * (nF t.1))) + 3) pr) ((21 + (6 * (nF t.1))) + 4) t.2) ((21 + (6 * (nF t.1))) + 5) mi)) ++ X) (by rw [show (nI ((21 + (6 * (nF t.1))) + 5)).toNatClampNeg = ((21 + (6 * (nF t.1))) + 5) from nI_clamp (by omega)]; rfl) dX12_doPlace_264 (fun H locs hw => ?_)
                        refine lv_aload_n C.1 C.2.1 dX12_doPlace_265 rfl (lv_at hl 3 rfl) ?_
                        refine r_get C hw 0 rfl rfl in_X12 0 (by decide) fl_X12_9 rfl (v := .ref (mo 1)) rfl dX12_doPlace_266 ?_
                        refine lv_iconst (v := 1) C.1 C.2.1 dX12_doPlace_269 (by decide) ?_
                        refine lv_dup2_11 C.1 C.2.1 dX12_doPlace_270 rfl rfl ?_
                        refine r_iald C hw 1 rfl (vp_in_nI (n := 1) (by omega) (by decide)) dX12_doPlace_271 ?_
                        refine r_toe (show _ = (upd (upd (upd (upd (upd (upd t.1 (21 + (6 * (nF t.1))) ((U.2 0) 2)) ((21 + (6 * (nF t.1))) + 1) (nI i)) ((21 + (6 * (nF t.1))) + 2) 1) ((21 + (6 * (nF t.1))) + 3) pr) ((21 + (6 * (nF t.1))) + 4) t.2) ((21 + (6 * (nF t.1))) + 5) mi) 1 from congrArg (upd (upd (upd (upd (upd (upd t.1 (21 + (6 * (nF t.1))) ((U.2 0) 2)) ((21 + (6 * (nF t.1))) + 1) (nI i)) ((21 + (6 * (nF t.1))) + 2) 1) ((21 + (6 * (nF t.1))) + 3) pr) ((21 + (6 * (nF t.1))) + 4) t.2) ((21 + (6 * (nF t.1))) + 5) mi) (nI_clamp (n := 1) (by omega))) ?_
                        refine r_toe (show _ = nI (nF t.1) from (opV_1 (f := t.1) (num := U.2 0 2) (i := i) (b := true) (pr := pr) (q := t.2) (mi := mi)).trans hO.1.1) ?_
                        refine lv_iconst (v := 1) C.1 C.2.1 dX12_doPlace_272 (by decide) ?_
                        refine lv_iadd C.1 C.2.1 dX12_doPlace_273 ?_
                        refine r_toe (nI_add (nF t.1) 1) ?_
                        refine r_iast C hw 1 rfl (vp_in_nI (n := 1) (by omega) (by decide)) (w' := moW G mo (mR (mR (mR (mR (mR (mR (mR (mR U 0 t.1) 0 (upd t.1 (21 + (6 * (nF t.1))) ((U.2 0) 2))) 0 (upd (upd t.1 (21 + (6 * (nF t.1))) ((U.2 0) 2)) ((21 + (6 * (nF t.1))) + 1) (nI i))) 0 (upd (upd (upd t.1 (21 + (6 * (nF t.1))) ((U.2 0) 2)) ((21 + (6 * (nF t.1))) + 1) (nI i)) ((21 + (6 * (nF t.1))) + 2) 1)) 0 (upd (upd (upd (upd t.1 (21 + (6 * (nF t.1))) ((U.2 0) 2)) ((21 + (6 * (nF t.1))) + 1) (nI i)) ((21 + (6 * (nF t.1))) + 2) 1) ((21 + (6 * (nF t.1))) + 3) pr)) 0 (upd (upd (upd (upd (upd t.1 (21 + (6 * (nF t.1))) ((U.2 0) 2)) ((21 + (6 * (nF t.1))) + 1) (nI i)) ((21 + (6 * (nF t.1))) + 2) 1) ((21 + (6 * (nF t.1))) + 3) pr) ((21 + (6 * (nF t.1))) + 4) t.2)) 0 (upd (upd (upd (upd (upd (upd t.1 (21 + (6 * (nF t.1))) ((U.2 0) 2)) ((21 + (6 * (nF t.1))) + 1) (nI i)) ((21 + (6 * (nF t.1))) + 2) 1) ((21 + (6 * (nF t.1))) + 3) pr) ((21 + (6 * (nF t.1))) + 4) t.2) ((21 + (6 * (nF t.1))) + 5) mi)) 0 (upd (upd (upd (upd (upd (upd (upd t.1 (21 + (6 * (nF t.1))) ((U.2 0) 2)) ((21 + (6 * (nF t.1))) + 1) (nI i)) ((21 + (6 * (nF t.1))) + 2) 1) ((21 + (6 * (nF t.1))) + 3) pr) ((21 + (6 * (nF t.1))) + 4) t.2) ((21 + (6 * (nF t.1))) + 5) mi) 1 (nI ((nF t.1) + 1)))) ++ X) rfl dX12_doPlace_274 (fun H locs hw => ?_)
                        replace hw : WH G s (moW G mo (mR U 0 (opW t.1 (U.2 0 2) i true pr t.2 mi)) ++ X) H locs := hw.to (by simp only [mR_mR]; rfl)
                        refine lv_iload C.1 C.2.1 dX12_doPlace_275 (lv_at hl 2 rfl) ?_
                        exact r_iret C hw rfl rfl () (by rw [opM_g (by omega) hC ht, opE, if_neg c_168, if_neg c_179]) (by rw [opM_g (by omega) hC ht, opE, if_neg c_168, if_neg c_179]) (Nat.le_of_ble_eq_true rfl) (Nat.le_of_ble_eq_true rfl) dX12_doPlace_277
                    · refine lv_iload C.1 C.2.1 dX12_doPlace_171 (lv_at hl 6 rfl) ?_
                      refine lv_iload C.1 C.2.1 dX12_doPlace_173 (lv_at hl 0 rfl) ?_
                      refine lv_isub C.1 C.2.1 dX12_doPlace_175 ?_
                      exact r_iret C hw rfl rfl () (by rw [opM_g (by omega) hC ht, opE, if_pos c_168]) (by rw [opM_g (by omega) hC ht, opE, if_pos c_168]) (Nat.le_of_ble_eq_true rfl) (Nat.le_of_ble_eq_true rfl) dX12_doPlace_176
                  · refine lv_iload C.1 C.2.1 dX12_doPlace_149 (lv_at hl 5 rfl) ?_
                    refine lv_goto (tgt := 163) C.1 C.2.1 dX12_doPlace_151 (by decide) ?_
                    have h4 := Int32.not_lt.mpr c_98
                    have hC : opC (U.2 0) (nI i) true pr q mi = 0 := by simp [opC, b_5, b_21, b_32, c_39, c_51, c_75, c_98, nI_clamp (show i < 2 ^ 31 by omega), h4]
                    have hT : opT (U.2 0) i true pr q = (nxF (U.2 0), q) := if_pos c_146
                    have hO := opT_ok hok (i := i) (by omega) true pr q
                    obtain ⟨t, ht⟩ : ∃ t, opT (U.2 0) i true pr q = t := ⟨_, rfl⟩
                    obtain ⟨e1, e2⟩ : nxF (U.2 0) = t.1 ∧ q = t.2 := by rw [← ht, hT]; exact ⟨rfl, rfl⟩
                    rw [e1] at hw
                    rw [ht] at hO
                    refine r_toe e2 ?_
                    replace hw : WH G s (moW G mo (mR U 0 t.1) ++ X) H locs := hw
                    have htn := hO.1.2.1
                    refine lv_istore (lv' := [(7, .int t.2), (6, .int ((U.2 0) 2)), (0, .ref (mo 0)), (1, .int (nI i)), (2, .int (bI true)), (3, .int pr), (4, .int q), (5, .int mi)]) C.1 C.2.1 dX12_doPlace_163 hl (by decide) rfl (fun ls hl => ?_)
                    refine lv_iload C.1 C.2.1 dX12_doPlace_165 (lv_at hl 7 rfl) ?_
                    refine lv_iconst (v := -1) C.1 C.2.1 dX12_doPlace_167 (by decide) ?_
                    refine lv_icmp_ne (tgt := 177) C.1 C.2.1 dX12_doPlace_168 (by decide) (fun c_168 => ?_) (fun c_168 => ?_)
                    · refine lv_iload C.1 C.2.1 dX12_doPlace_177 (lv_at hl 0 rfl) ?_
                      refine lv_if_le (tgt := 275) C.1 C.2.1 dX12_doPlace_179 (by decide) (fun c_179 => ?_) (fun c_179 => ?_)
                      · refine lv_iload C.1 C.2.1 dX12_doPlace_275 (lv_at hl 1 rfl) ?_
                        exact r_iret C hw rfl rfl () (by rw [opM_g (by omega) hC ht, opE, if_neg c_168, if_pos c_179]) (by rw [opM_g (by omega) hC ht, opE, if_neg c_168, if_pos c_179]) (Nat.le_of_ble_eq_true rfl) (Nat.le_of_ble_eq_true rfl) dX12_doPlace_277
                      · refine lv_bipush (v := 21) C.1 C.2.1 dX12_doPlace_182 (by decide) ?_
                        refine lv_bipush (v := 6) C.1 C.2.1 dX12_doPlace_184 (by decide) ?_
                        refine lv_aload_n C.1 C.2.1 dX12_doPlace_186 rfl (lv_at hl 2 rfl) ?_
                        refine r_get C hw 0 rfl rfl in_X12 0 (by decide) fl_X12_9 rfl (v := .ref (mo 1)) rfl dX12_doPlace_187 ?_
                        refine lv_iconst (v := 1) C.1 C.2.1 dX12_doPlace_190 (by decide) ?_
                        refine r_iald C hw 1 rfl (vp_in_nI (n := 1) (by omega) (by decide)) dX12_doPlace_191 ?_
                        refine r_toe (show _ = t.1 1 from congrArg t.1 (nI_clamp (n := 1) (by omega))) ?_
                        refine r_toe (show _ = nI (nF t.1) from hO.1.1) ?_
                        refine lv_imul C.1 C.2.1 dX12_doPlace_192 ?_
                        refine r_toe (pk_mul 6 (nF t.1)) ?_
                        refine lv_iadd C.1 C.2.1 dX12_doPlace_193 ?_
                        refine r_toe (nI_add 21 (6 * (nF t.1))) ?_
                        refine lv_istore (lv' := [(8, .int (nI (21 + (6 * (nF t.1))))), (7, .int t.2), (6, .int ((U.2 0) 2)), (0, .ref (mo 0)), (1, .int (nI i)), (2, .int (bI true)), (3, .int pr), (4, .int q), (5, .int mi)]) C.1 C.2.1 dX12_doPlace_194 hl (by decide) rfl (fun ls hl => ?_)
                        refine lv_aload_n C.1 C.2.1 dX12_doPlace_196 rfl (lv_at hl 3 rfl) ?_
                        refine r_get C hw 0 rfl rfl in_X12 0 (by decide) fl_X12_9 rfl (v := .ref (mo 1)) rfl dX12_doPlace_197 ?_
                        refine lv_iload C.1 C.2.1 dX12_doPlace_200 (lv_at hl 0 rfl) ?_
                        refine lv_iload C.1 C.2.1 dX12_doPlace_202 (lv_at hl 2 rfl) ?_
                        refine r_iast C hw 1 rfl (vp_in_nI (n := (21 + (6 * (nF t.1)))) (by omega) (by decide)) (w' := moW G mo (mR (mR U 0 t.1) 0 (upd t.1 (21 + (6 * (nF t.1))) ((U.2 0) 2))) ++ X) (by rw [show (nI (21 + (6 * (nF t.1)))).toNatClampNeg = (21 + (6 * (nF t.1))) from nI_clamp (by omega)]; rfl) dX12_doPlace_204 (fun H locs hw => ?_)
                        refine lv_aload_n C.1 C.2.1 dX12_doPlace_205 rfl (lv_at hl 3 rfl) ?_
                        refine r_get C hw 0 rfl rfl in_X12 0 (by decide) fl_X12_9 rfl (v := .ref (mo 1)) rfl dX12_doPlace_206 ?_
                        refine lv_iload C.1 C.2.1 dX12_doPlace_209 (lv_at hl 0 rfl) ?_
                        refine lv_iconst (v := 1) C.1 C.2.1 dX12_doPlace_211 (by decide) ?_
                        refine lv_iadd C.1 C.2.1 dX12_doPlace_212 ?_
                        refine r_toe (nI_add (21 + (6 * (nF t.1))) 1) ?_
                        refine lv_iload_n C.1 C.2.1 dX12_doPlace_213 rfl (lv_at hl 4 rfl) ?_
                        refine r_iast C hw 1 rfl (vp_in_nI (n := ((21 + (6 * (nF t.1))) + 1)) (by omega) (by decide)) (w' := moW G mo (mR (mR (mR U 0 t.1) 0 (upd t.1 (21 + (6 * (nF t.1))) ((U.2 0) 2))) 0 (upd (upd t.1 (21 + (6 * (nF t.1))) ((U.2 0) 2)) ((21 + (6 * (nF t.1))) + 1) (nI i))) ++ X) (by rw [show (nI ((21 + (6 * (nF t.1))) + 1)).toNatClampNeg = ((21 + (6 * (nF t.1))) + 1) from nI_clamp (by omega)]; rfl) dX12_doPlace_214 (fun H locs hw => ?_)
                        refine lv_aload_n C.1 C.2.1 dX12_doPlace_215 rfl (lv_at hl 3 rfl) ?_
                        refine r_get C hw 0 rfl rfl in_X12 0 (by decide) fl_X12_9 rfl (v := .ref (mo 1)) rfl dX12_doPlace_216 ?_
                        refine lv_iload C.1 C.2.1 dX12_doPlace_219 (lv_at hl 0 rfl) ?_
                        refine lv_iconst (v := 2) C.1 C.2.1 dX12_doPlace_221 (by decide) ?_
                        refine lv_iadd C.1 C.2.1 dX12_doPlace_222 ?_
                        refine r_toe (nI_add (21 + (6 * (nF t.1))) 2) ?_
                        refine lv_iload_n C.1 C.2.1 dX12_doPlace_223 rfl (lv_at hl 5 rfl) ?_
                        refine lv_if_eq (tgt := 231) C.1 C.2.1 dX12_doPlace_224 (by decide) (fun c_224 => absurd c_224 (by decide)) (fun c_224 => ?_)
                        refine lv_iconst (v := 1) C.1 C.2.1 dX12_doPlace_227 (by decide) ?_
                        refine lv_goto (tgt := 232) C.1 C.2.1 dX12_doPlace_228 (by decide) ?_
                        refine r_iast C hw 1 rfl (vp_in_nI (n := ((21 + (6 * (nF t.1))) + 2)) (by omega) (by decide)) (w' := moW G mo (mR (mR (mR (mR U 0 t.1) 0 (upd t.1 (21 + (6 * (nF t.1))) ((U.2 0) 2))) 0 (upd (upd t.1 (21 + (6 * (nF t.1))) ((U.2 0) 2)) ((21 + (6 * (nF t.1))) + 1) (nI i))) 0 (upd (upd (upd t.1 (21 + (6 * (nF t.1))) ((U.2 0) 2)) ((21 + (6 * (nF t.1))) + 1) (nI i)) ((21 + (6 * (nF t.1))) + 2) 1)) ++ X) (by rw [show (nI ((21 + (6 * (nF t.1))) + 2)).toNatClampNeg = ((21 + (6 * (nF t.1))) + 2) from nI_clamp (by omega)]; rfl) dX12_doPlace_232 (fun H locs hw => ?_)
                        refine lv_aload_n C.1 C.2.1 dX12_doPlace_233 rfl (lv_at hl 3 rfl) ?_
                        refine r_get C hw 0 rfl rfl in_X12 0 (by decide) fl_X12_9 rfl (v := .ref (mo 1)) rfl dX12_doPlace_234 ?_
                        refine lv_iload C.1 C.2.1 dX12_doPlace_237 (lv_at hl 0 rfl) ?_
                        refine lv_iconst (v := 3) C.1 C.2.1 dX12_doPlace_239 (by decide) ?_
                        refine lv_iadd C.1 C.2.1 dX12_doPlace_240 ?_
                        refine r_toe (nI_add (21 + (6 * (nF t.1))) 3) ?_
                        refine lv_iload_n C.1 C.2.1 dX12_doPlace_241 rfl (lv_at hl 6 rfl) ?_
                        refine r_iast C hw 1 rfl (vp_in_nI (n := ((21 + (6 * (nF t.1))) + 3)) (by omega) (by decide)) (w' := moW G mo (mR (mR (mR (mR (mR U 0 t.1) 0 (upd t.1 (21 + (6 * (nF t.1))) ((U.2 0) 2))) 0 (upd (upd t.1 (21 + (6 * (nF t.1))) ((U.2 0) 2)) ((21 + (6 * (nF t.1))) + 1) (nI i))) 0 (upd (upd (upd t.1 (21 + (6 * (nF t.1))) ((U.2 0) 2)) ((21 + (6 * (nF t.1))) + 1) (nI i)) ((21 + (6 * (nF t.1))) + 2) 1)) 0 (upd (upd (upd (upd t.1 (21 + (6 * (nF t.1))) ((U.2 0) 2)) ((21 + (6 * (nF t.1))) + 1) (nI i)) ((21 + (6 * (nF t.1))) + 2) 1) ((21 + (6 * (nF t.1))) + 3) pr)) ++ X) (by rw [show (nI ((21 + (6 * (nF t.1))) + 3)).toNatClampNeg = ((21 + (6 * (nF t.1))) + 3) from nI_clamp (by omega)]; rfl) dX12_doPlace_242 (fun H locs hw => ?_)
                        refine lv_aload_n C.1 C.2.1 dX12_doPlace_243 rfl (lv_at hl 3 rfl) ?_
                        refine r_get C hw 0 rfl rfl in_X12 0 (by decide) fl_X12_9 rfl (v := .ref (mo 1)) rfl dX12_doPlace_244 ?_
                        refine lv_iload C.1 C.2.1 dX12_doPlace_247 (lv_at hl 0 rfl) ?_
                        refine lv_iconst (v := 4) C.1 C.2.1 dX12_doPlace_249 (by decide) ?_
                        refine lv_iadd C.1 C.2.1 dX12_doPlace_250 ?_
                        refine r_toe (nI_add (21 + (6 * (nF t.1))) 4) ?_
                        refine lv_iload C.1 C.2.1 dX12_doPlace_251 (lv_at hl 1 rfl) ?_
                        refine r_iast C hw 1 rfl (vp_in_nI (n := ((21 + (6 * (nF t.1))) + 4)) (by omega) (by decide)) (w' := moW G mo (mR (mR (mR (mR (mR (mR U 0 t.1) 0 (upd t.1 (21 + (6 * (nF t.1))) ((U.2 0) 2))) 0 (upd (upd t.1 (21 + (6 * (nF t.1))) ((U.2 0) 2)) ((21 + (6 * (nF t.1))) + 1) (nI i))) 0 (upd (upd (upd t.1 (21 + (6 * (nF t.1))) ((U.2 0) 2)) ((21 + (6 * (nF t.1))) + 1) (nI i)) ((21 + (6 * (nF t.1))) + 2) 1)) 0 (upd (upd (upd (upd t.1 (21 + (6 * (nF t.1))) ((U.2 0) 2)) ((21 + (6 * (nF t.1))) + 1) (nI i)) ((21 + (6 * (nF t.1))) + 2) 1) ((21 + (6 * (nF t.1))) + 3) pr)) 0 (upd (upd (upd (upd (upd t.1 (21 + (6 * (nF t.1))) ((U.2 0) 2)) ((21 + (6 * (nF t.1))) + 1) (nI i)) ((21 + (6 * (nF t.1))) + 2) 1) ((21 + (6 * (nF t.1))) + 3) pr) ((21 + (6 * (nF t.1))) + 4) t.2)) ++ X) (by rw [show (nI ((21 + (6 * (nF t.1))) + 4)).toNatClampNeg = ((21 + (6 * (nF t.1))) + 4) from nI_clamp (by omega)]; rfl) dX12_doPlace_253 (fun H locs hw => ?_)
                        refine lv_aload_n C.1 C.2.1 dX12_doPlace_254 rfl (lv_at hl 3 rfl) ?_
                        refine r_get C hw 0 rfl rfl in_X12 0 (by decide) fl_X12_9 rfl (v := .ref (mo 1)) rfl dX12_doPlace_255 ?_
                        refine lv_iload C.1 C.2.1 dX12_doPlace_258 (lv_at hl 0 rfl) ?_
                        refine lv_iconst (v := 5) C.1 C.2.1 dX12_doPlace_260 (by decide) ?_
                        refine lv_iadd C.1 C.2.1 dX12_doPlace_261 ?_
                        refine r_toe (nI_add (21 + (6 * (nF t.1))) 5) ?_
                        refine lv_iload C.1 C.2.1 dX12_doPlace_262 (lv_at hl 8 rfl) ?_
                        refine r_iast C hw 1 rfl (vp_in_nI (n := ((21 + (6 * (nF t.1))) + 5)) (by omega) (by decide)) (w' := moW G mo (mR (mR (mR (mR (mR (mR (mR U 0 t.1) 0 (upd t.1 (21 + (6 * (nF t.1))) ((U.2 0) 2))) 0 (upd (upd t.1 (21 + (6 * (nF t.1))) ((U.2 0) 2)) ((21 + (6 * (nF t.1))) + 1) (nI i))) 0 (upd (upd (upd t.1 (21 + (6 * (nF t.1))) ((U.2 0) 2)) ((21 + (6 * (nF t.1))) + 1) (nI i)) ((21 + (6 * (nF t.1))) + 2) 1)) 0 (upd (upd (upd (upd t.1 (21 + (6 * (nF t.1))) ((U.2 0) 2)) ((21 + (6 * (nF t.1))) + 1) (nI i)) ((21 + (6 * (nF t.1))) + 2) 1) ((21 + (6 * (nF t.1))) + 3) pr)) 0 (upd (upd (upd (upd (upd t.1 (21 + (6 * (nF t.1))) ((U.2 0) 2)) ((21 + (6 * (nF t.1))) + 1) (nI i)) ((21 + (6 * (nF t.1))) + 2) 1) ((21 + (6 * (nF t.1))) + 3) pr) ((21 + (6 * (nF t.1))) + 4) t.2)) 0 (upd (upd (upd (upd (upd (upd t.1 (21 + (6 * (nF t.1))) ((U.2 0) 2)) ((21 + (6 * (nF t.1))) + 1) (nI i)) ((21 + (6 * (nF t.1))) + 2) 1) ((21 + (6 * (nF t.1))) + 3) pr) ((21 + (6 * (nF t.1))) + 4) t.2) ((21 + (6 * (nF t.1))) + 5) mi)) ++ X) (by rw [show (nI ((21 + (6 * (nF t.1))) + 5)).toNatClampNeg = ((21 + (6 * (nF t.1))) + 5) from nI_clamp (by omega)]; rfl) dX12_doPlace_264 (fun H locs hw => ?_)
                        refine lv_aload_n C.1 C.2.1 dX12_doPlace_265 rfl (lv_at hl 3 rfl) ?_
                        refine r_get C hw 0 rfl rfl in_X12 0 (by decide) fl_X12_9 rfl (v := .ref (mo 1)) rfl dX12_doPlace_266 ?_
                        refine lv_iconst (v := 1) C.1 C.2.1 dX12_doPlace_269 (by decide) ?_
                        refine lv_dup2_11 C.1 C.2.1 dX12_doPlace_270 rfl rfl ?_
                        refine r_iald C hw 1 rfl (vp_in_nI (n := 1) (by omega) (by decide)) dX12_doPlace_271 ?_
                        refine r_toe (show _ = (upd (upd (upd (upd (upd (upd t.1 (21 + (6 * (nF t.1))) ((U.2 0) 2)) ((21 + (6 * (nF t.1))) + 1) (nI i)) ((21 + (6 * (nF t.1))) + 2) 1) ((21 + (6 * (nF t.1))) + 3) pr) ((21 + (6 * (nF t.1))) + 4) t.2) ((21 + (6 * (nF t.1))) + 5) mi) 1 from congrArg (upd (upd (upd (upd (upd (upd t.1 (21 + (6 * (nF t.1))) ((U.2 0) 2)) ((21 + (6 * (nF t.1))) + 1) (nI i)) ((21 + (6 * (nF t.1))) + 2) 1) ((21 + (6 * (nF t.1))) + 3) pr) ((21 + (6 * (nF t.1))) + 4) t.2) ((21 + (6 * (nF t.1))) + 5) mi) (nI_clamp (n := 1) (by omega))) ?_
                        refine r_toe (show _ = nI (nF t.1) from (opV_1 (f := t.1) (num := U.2 0 2) (i := i) (b := true) (pr := pr) (q := t.2) (mi := mi)).trans hO.1.1) ?_
                        refine lv_iconst (v := 1) C.1 C.2.1 dX12_doPlace_272 (by decide) ?_
                        refine lv_iadd C.1 C.2.1 dX12_doPlace_273 ?_
                        refine r_toe (nI_add (nF t.1) 1) ?_
                        refine r_iast C hw 1 rfl (vp_in_nI (n := 1) (by omega) (by decide)) (w' := moW G mo (mR (mR (mR (mR (mR (mR (mR (mR U 0 t.1) 0 (upd t.1 (21 + (6 * (nF t.1))) ((U.2 0) 2))) 0 (upd (upd t.1 (21 + (6 * (nF t.1))) ((U.2 0) 2)) ((21 + (6 * (nF t.1))) + 1) (nI i))) 0 (upd (upd (upd t.1 (21 + (6 * (nF t.1))) ((U.2 0) 2)) ((21 + (6 * (nF t.1))) + 1) (nI i)) ((21 + (6 * (nF t.1))) + 2) 1)) 0 (upd (upd (upd (upd t.1 (21 + (6 * (nF t.1))) ((U.2 0) 2)) ((21 + (6 * (nF t.1))) + 1) (nI i)) ((21 + (6 * (nF t.1))) + 2) 1) ((21 + (6 * (nF t.1))) + 3) pr)) 0 (upd (upd (upd (upd (upd t.1 (21 + (6 * (nF t.1))) ((U.2 0) 2)) ((21 + (6 * (nF t.1))) + 1) (nI i)) ((21 + (6 * (nF t.1))) + 2) 1) ((21 + (6 * (nF t.1))) + 3) pr) ((21 + (6 * (nF t.1))) + 4) t.2)) 0 (upd (upd (upd (upd (upd (upd t.1 (21 + (6 * (nF t.1))) ((U.2 0) 2)) ((21 + (6 * (nF t.1))) + 1) (nI i)) ((21 + (6 * (nF t.1))) + 2) 1) ((21 + (6 * (nF t.1))) + 3) pr) ((21 + (6 * (nF t.1))) + 4) t.2) ((21 + (6 * (nF t.1))) + 5) mi)) 0 (upd (upd (upd (upd (upd (upd (upd t.1 (21 + (6 * (nF t.1))) ((U.2 0) 2)) ((21 + (6 * (nF t.1))) + 1) (nI i)) ((21 + (6 * (nF t.1))) + 2) 1) ((21 + (6 * (nF t.1))) + 3) pr) ((21 + (6 * (nF t.1))) + 4) t.2) ((21 + (6 * (nF t.1))) + 5) mi) 1 (nI ((nF t.1) + 1)))) ++ X) rfl dX12_doPlace_274 (fun H locs hw => ?_)
                        replace hw : WH G s (moW G mo (mR U 0 (opW t.1 (U.2 0 2) i true pr t.2 mi)) ++ X) H locs := hw.to (by simp only [mR_mR]; rfl)
                        refine lv_iload C.1 C.2.1 dX12_doPlace_275 (lv_at hl 2 rfl) ?_
                        exact r_iret C hw rfl rfl () (by rw [opM_g (by omega) hC ht, opE, if_neg c_168, if_neg c_179]) (by rw [opM_g (by omega) hC ht, opE, if_neg c_168, if_neg c_179]) (Nat.le_of_ble_eq_true rfl) (Nat.le_of_ble_eq_true rfl) dX12_doPlace_277
                    · refine lv_iload C.1 C.2.1 dX12_doPlace_171 (lv_at hl 6 rfl) ?_
                      refine lv_iload C.1 C.2.1 dX12_doPlace_173 (lv_at hl 0 rfl) ?_
                      refine lv_isub C.1 C.2.1 dX12_doPlace_175 ?_
                      exact r_iret C hw rfl rfl () (by rw [opM_g (by omega) hC ht, opE, if_pos c_168]) (by rw [opM_g (by omega) hC ht, opE, if_pos c_168]) (Nat.le_of_ble_eq_true rfl) (Nat.le_of_ble_eq_true rfl) dX12_doPlace_176
                · refine lv_goto (tgt := 115) C.1 C.2.1 dX12_doPlace_101 (by decide) ?_
                  refine lv_aload_n C.1 C.2.1 dX12_doPlace_115 rfl (lv_at hl 0 rfl) ?_
                  refine lv_iconst (v := 4) C.1 C.2.1 dX12_doPlace_116 (by decide) ?_
                  refine r_vi C hw (k12_fails hF (mo := mo) (U := U) (X := X) 4) ml_X12_90 yf_X12_fails 0 rfl rfl (As := [.int 4]) rfl rfl ⟨Nat.le_of_ble_eq_true rfl, Nat.le_of_ble_eq_true rfl⟩ ⟨Nat.le_of_ble_eq_true rfl, Nat.le_of_ble_eq_true rfl⟩ hl.1 (Nat.le_of_ble_eq_true rfl) dX12_doPlace_117 (fun r_117 _ H locs hp_117 hw => ?_)
                  obtain rfl : r_117 = 0 := hp_117
                  replace hw : WH G s (moW G mo (mI U 2 4) ++ X) H locs := hw
                  exact r_iret C hw rfl rfl () (by rw [opM_f (k := 4) (by simp [opC, b_5, b_21, b_32, c_39, c_51, c_75, c_98, nI_clamp (show i < 2 ^ 31 by omega), Int32.not_le.mp c_98]) (by decide)]) (by rw [opM_f (k := 4) (by simp [opC, b_5, b_21, b_32, c_39, c_51, c_75, c_98, nI_clamp (show i < 2 ^ 31 by omega), Int32.not_le.mp c_98]) (by decide)]) (Nat.le_of_ble_eq_true rfl) (Nat.le_of_ble_eq_true rfl) dX12_doPlace_120
            · refine lv_aload_n C.1 C.2.1 dX12_doPlace_78 rfl (lv_at hl 0 rfl) ?_
              refine lv_iconst (v := 3) C.1 C.2.1 dX12_doPlace_79 (by decide) ?_
              refine r_vi C hw (k12_fails hF (mo := mo) (U := U) (X := X) 3) ml_X12_90 yf_X12_fails 0 rfl rfl (As := [.int 3]) rfl rfl ⟨Nat.le_of_ble_eq_true rfl, Nat.le_of_ble_eq_true rfl⟩ ⟨Nat.le_of_ble_eq_true rfl, Nat.le_of_ble_eq_true rfl⟩ hl.1 (Nat.le_of_ble_eq_true rfl) dX12_doPlace_80 (fun r_80 _ H locs hp_80 hw => ?_)
              obtain rfl : r_80 = 0 := hp_80
              replace hw : WH G s (moW G mo (mI U 2 3) ++ X) H locs := hw
              exact r_iret C hw rfl rfl () (by rw [opM_f (k := 3) (by simp [opC, b_5, b_21, b_32, c_39, c_51, c_75]) (by decide)]) (by rw [opM_f (k := 3) (by simp [opC, b_5, b_21, b_32, c_39, c_51, c_75]) (by decide)]) (Nat.le_of_ble_eq_true rfl) (Nat.le_of_ble_eq_true rfl) dX12_doPlace_83
          · refine lv_aload_n C.1 C.2.1 dX12_doPlace_54 rfl (lv_at hl 0 rfl) ?_
            refine r_get C hw 0 rfl rfl in_X12 0 (by decide) fl_X12_9 rfl (v := .ref (mo 1)) rfl dX12_doPlace_55 ?_
            refine lv_iconst (v := 4) C.1 C.2.1 dX12_doPlace_58 (by decide) ?_
            refine r_iald C hw 1 rfl (vp_in_nI (n := 4) (by omega) (by decide)) dX12_doPlace_59 ?_
            refine r_toe (show _ = (U.2 0) 4 from congrArg (U.2 0) (nI_clamp (n := 4) (by omega))) ?_
            refine lv_iconst (v := 1) C.1 C.2.1 dX12_doPlace_60 (by decide) ?_
            refine lv_icmp_ne (tgt := 84) C.1 C.2.1 dX12_doPlace_61 (by decide) (fun c_61 => ?_) (fun c_61 => ?_)
            · refine lv_iload_n C.1 C.2.1 dX12_doPlace_84 rfl (lv_at hl 2 rfl) ?_
              refine lv_if_eq (tgt := 104) C.1 C.2.1 dX12_doPlace_85 (by decide) (fun c_85 => ?_) (fun c_85 => ?_)
              · obtain rfl : b = false := bI_eq0.mp c_85
                clear c_85
                replace hl : lv_has ls 9 [(0, .ref (mo 0)), (1, .int (nI i)), (2, .int (bI false)), (3, .int pr), (4, .int q), (5, .int mi)] := hl
                refine lv_aload_n C.1 C.2.1 dX12_doPlace_104 rfl (lv_at hl 0 rfl) ?_
                refine lv_iload_n C.1 C.2.1 dX12_doPlace_105 rfl (lv_at hl 1 rfl) ?_
                refine lv_iconst (v := 1) C.1 C.2.1 dX12_doPlace_106 (by decide) ?_
                refine r_vi C hw (k12_free_1 hF (mo := mo) (U := U) (X := X) (n := (nF (U.2 0))) hok.1 hok.2.1 (i := i) (by omega)) ml_X12_94 yf_X12_free 0 rfl rfl (As := [.int (nI i), .int 1]) rfl rfl ⟨Nat.le_of_ble_eq_true rfl, Nat.le_of_ble_eq_true rfl⟩ ⟨Nat.le_of_ble_eq_true rfl, Nat.le_of_ble_eq_true rfl⟩ hl.1 (Nat.le_of_ble_eq_true rfl) dX12_doPlace_107 (fun r_107 _ H locs hp_107 hw => ?_)
                obtain rfl : r_107 = fqR (U.2 0) i false (nF (U.2 0)) := hp_107
                replace hw : WH G s (moW G mo U ++ X) H locs := hw
                refine lv_iload C.1 C.2.1 dX12_doPlace_110 (lv_at hl 4 rfl) ?_
                refine lv_icmp_ge (tgt := 121) C.1 C.2.1 dX12_doPlace_112 (by decide) (fun c_112 => ?_) (fun c_112 => ?_)
                · refine lv_aload_n C.1 C.2.1 dX12_doPlace_121 rfl (lv_at hl 0 rfl) ?_
                  refine r_get C hw 0 rfl rfl in_X12 0 (by decide) fl_X12_9 rfl (v := .ref (mo 1)) rfl dX12_doPlace_122 ?_
                  refine lv_iconst (v := 2) C.1 C.2.1 dX12_doPlace_125 (by decide) ?_
                  refine r_iald C hw 1 rfl (vp_in_nI (n := 2) (by omega) (by decide)) dX12_doPlace_126 ?_
                  refine r_toe (show _ = (U.2 0) 2 from congrArg (U.2 0) (nI_clamp (n := 2) (by omega))) ?_
                  refine lv_istore (lv' := [(6, .int ((U.2 0) 2)), (0, .ref (mo 0)), (1, .int (nI i)), (2, .int (bI false)), (3, .int pr), (4, .int q), (5, .int mi)]) C.1 C.2.1 dX12_doPlace_127 hl (by decide) rfl (fun ls hl => ?_)
                  refine lv_aload_n C.1 C.2.1 dX12_doPlace_129 rfl (lv_at hl 1 rfl) ?_
                  refine r_get C hw 0 rfl rfl in_X12 0 (by decide) fl_X12_9 rfl (v := .ref (mo 1)) rfl dX12_doPlace_130 ?_
                  refine lv_iconst (v := 2) C.1 C.2.1 dX12_doPlace_133 (by decide) ?_
                  refine lv_dup2_11 C.1 C.2.1 dX12_doPlace_134 rfl rfl ?_
                  refine r_iald C hw 1 rfl (vp_in_nI (n := 2) (by omega) (by decide)) dX12_doPlace_135 ?_
                  refine r_toe (show _ = (U.2 0) 2 from congrArg (U.2 0) (nI_clamp (n := 2) (by omega))) ?_
                  refine lv_iconst (v := 1) C.1 C.2.1 dX12_doPlace_136 (by decide) ?_
                  refine lv_iadd C.1 C.2.1 dX12_doPlace_137 ?_
                  refine r_iast C hw 1 rfl (vp_in_nI (n := 2) (by omega) (by decide)) (w' := moW G mo (mR U 0 (upd (U.2 0) 2 (((U.2 0) 2) + 1))) ++ X) rfl dX12_doPlace_138 (fun H locs hw => ?_)
                  replace hw : WH G s (moW G mo (mR U 0 (nxF (U.2 0))) ++ X) H locs := hw
                  refine lv_aload_n C.1 C.2.1 dX12_doPlace_139 rfl (lv_at hl 1 rfl) ?_
                  refine r_get C hw 0 rfl rfl in_X12 0 (by decide) fl_X12_9 rfl (v := .ref (mo 1)) rfl dX12_doPlace_140 ?_
                  refine lv_iconst (v := 4) C.1 C.2.1 dX12_doPlace_143 (by decide) ?_
                  refine r_iald C hw 1 rfl (vp_in_nI (n := 4) (by omega) (by decide)) dX12_doPlace_144 ?_
                  refine r_toe (show _ = (nxF (U.2 0)) 4 from congrArg (nxF (U.2 0)) (nI_clamp (n := 4) (by omega))) ?_
                  refine lv_iconst (v := 1) C.1 C.2.1 dX12_doPlace_145 (by decide) ?_
                  refine lv_icmp_ne (tgt := 154) C.1 C.2.1 dX12_doPlace_146 (by decide) (fun c_146 => ?_) (fun c_146 => ?_)
                  · refine lv_aload_n C.1 C.2.1 dX12_doPlace_154 rfl (lv_at hl 1 rfl) ?_
                    refine lv_iload_n C.1 C.2.1 dX12_doPlace_155 rfl (lv_at hl 2 rfl) ?_
                    refine lv_iload_n C.1 C.2.1 dX12_doPlace_156 rfl (lv_at hl 3 rfl) ?_
                    refine lv_iload_n C.1 C.2.1 dX12_doPlace_157 rfl (lv_at hl 4 rfl) ?_
                    refine lv_iload C.1 C.2.1 dX12_doPlace_158 (lv_at hl 5 rfl) ?_
                    refine r_vi C hw (k12_trades hF (mo := mo) (U := (mR U 0 (nxF (U.2 0)))) (X := X) (show okF (nxF (U.2 0)) from (okF_nx hok).1) (i := i) (by omega) false pr q) ml_X12_97 yf_X12_trades 0 rfl rfl (As := [.int (nI i), .int (bI false), .int pr, .int q]) rfl rfl ⟨Nat.le_of_ble_eq_true rfl, Nat.le_of_ble_eq_true rfl⟩ ⟨Nat.le_of_ble_eq_true rfl, Nat.le_of_ble_eq_true rfl⟩ hl.1 (Nat.le_of_ble_eq_true rfl) dX12_doPlace_160 (fun r_160 _ H locs hp_160 hw => ?_)
                    obtain rfl : r_160 = (mtR false i pr 21 (nxF (U.2 0)) q).2 := hp_160
                    replace hw : WH G s (moW G mo (mR (mR U 0 (nxF (U.2 0))) 0 (mtR false i pr 21 (nxF (U.2 0)) q).1) ++ X) H locs := hw
                    have h4 := Int32.not_lt.mpr c_112
                    have hC : opC (U.2 0) (nI i) false pr q mi = 0 := by simp [opC, b_5, b_21, b_32, c_39, c_51, c_61, c_112, nI_clamp (show i < 2 ^ 31 by omega), h4]
                    have hT : opT (U.2 0) i false pr q = mtR false i pr 21 (nxF (U.2 0)) q := if_neg c_146
                    have hO := opT_ok hok (i := i) (by omega) false pr q
                    rw [hT] at hO
                    obtain ⟨t, ht⟩ : ∃ t, mtR false i pr 21 (nxF (U.2 0)) q = t := ⟨_, rfl⟩
                    rw [ht] at hw hO hT
                    refine r_toe (congrArg Prod.snd ht) ?_
                    replace ht := hT
                    replace hw : WH G s (moW G mo (mR U 0 t.1) ++ X) H locs := hw.to (by rw [mR_mR])
                    have htn := hO.1.2.1
                    refine lv_istore (lv' := [(7, .int t.2), (6, .int ((U.2 0) 2)), (0, .ref (mo 0)), (1, .int (nI i)), (2, .int (bI false)), (3, .int pr), (4, .int q), (5, .int mi)]) C.1 C.2.1 dX12_doPlace_163 hl (by decide) rfl (fun ls hl => ?_)
                    refine lv_iload C.1 C.2.1 dX12_doPlace_165 (lv_at hl 7 rfl) ?_
                    refine lv_iconst (v := -1) C.1 C.2.1 dX12_doPlace_167 (by decide) ?_
                    refine lv_icmp_ne (tgt := 177) C.1 C.2.1 dX12_doPlace_168 (by decide) (fun c_168 => ?_) (fun c_168 => ?_)
                    · refine lv_iload C.1 C.2.1 dX12_doPlace_177 (lv_at hl 0 rfl) ?_
                      refine lv_if_le (tgt := 275) C.1 C.2.1 dX12_doPlace_179 (by decide) (fun c_179 => ?_) (fun c_179 => ?_)
                      · refine lv_iload C.1 C.2.1 dX12_doPlace_275 (lv_at hl 1 rfl) ?_
                        exact r_iret C hw rfl rfl () (by rw [opM_g (by omega) hC ht, opE, if_neg c_168, if_pos c_179]) (by rw [opM_g (by omega) hC ht, opE, if_neg c_168, if_pos c_179]) (Nat.le_of_ble_eq_true rfl) (Nat.le_of_ble_eq_true rfl) dX12_doPlace_277
                      · refine lv_bipush (v := 21) C.1 C.2.1 dX12_doPlace_182 (by decide) ?_
                        refine lv_bipush (v := 6) C.1 C.2.1 dX12_doPlace_184 (by decide) ?_
                        refine lv_aload_n C.1 C.2.1 dX12_doPlace_186 rfl (lv_at hl 2 rfl) ?_
                        refine r_get C hw 0 rfl rfl in_X12 0 (by decide) fl_X12_9 rfl (v := .ref (mo 1)) rfl dX12_doPlace_187 ?_
                        refine lv_iconst (v := 1) C.1 C.2.1 dX12_doPlace_190 (by decide) ?_
                        refine r_iald C hw 1 rfl (vp_in_nI (n := 1) (by omega) (by decide)) dX12_doPlace_191 ?_
                        refine r_toe (show _ = t.1 1 from congrArg t.1 (nI_clamp (n := 1) (by omega))) ?_
                        refine r_toe (show _ = nI (nF t.1) from hO.1.1) ?_
                        refine lv_imul C.1 C.2.1 dX12_doPlace_192 ?_
                        refine r_toe (pk_mul 6 (nF t.1)) ?_
                        refine lv_iadd C.1 C.2.1 dX12_doPlace_193 ?_
                        refine r_toe (nI_add 21 (6 * (nF t.1))) ?_
                        refine lv_istore (lv' := [(8, .int (nI (21 + (6 * (nF t.1))))), (7, .int t.2), (6, .int ((U.2 0) 2)), (0, .ref (mo 0)), (1, .int (nI i)), (2, .int (bI false)), (3, .int pr), (4, .int q), (5, .int mi)]) C.1 C.2.1 dX12_doPlace_194 hl (by decide) rfl (fun ls hl => ?_)
                        refine lv_aload_n C.1 C.2.1 dX12_doPlace_196 rfl (lv_at hl 3 rfl) ?_
                        refine r_get C hw 0 rfl rfl in_X12 0 (by decide) fl_X12_9 rfl (v := .ref (mo 1)) rfl dX12_doPlace_197 ?_
                        refine lv_iload C.1 C.2.1 dX12_doPlace_200 (lv_at hl 0 rfl) ?_
                        refine lv_iload C.1 C.2.1 dX12_doPlace_202 (lv_at hl 2 rfl) ?_
                        refine r_iast C hw 1 rfl (vp_in_nI (n := (21 + (6 * (nF t.1)))) (by omega) (by decide)) (w' := moW G mo (mR (mR U 0 t.1) 0 (upd t.1 (21 + (6 * (nF t.1))) ((U.2 0) 2))) ++ X) (by rw [show (nI (21 + (6 * (nF t.1)))).toNatClampNeg = (21 + (6 * (nF t.1))) from nI_clamp (by omega)]; rfl) dX12_doPlace_204 (fun H locs hw => ?_)
                        refine lv_aload_n C.1 C.2.1 dX12_doPlace_205 rfl (lv_at hl 3 rfl) ?_
                        refine r_get C hw 0 rfl rfl in_X12 0 (by decide) fl_X12_9 rfl (v := .ref (mo 1)) rfl dX12_doPlace_206 ?_
                        refine lv_iload C.1 C.2.1 dX12_doPlace_209 (lv_at hl 0 rfl) ?_
                        refine lv_iconst (v := 1) C.1 C.2.1 dX12_doPlace_211 (by decide) ?_
                        refine lv_iadd C.1 C.2.1 dX12_doPlace_212 ?_
                        refine r_toe (nI_add (21 + (6 * (nF t.1))) 1) ?_
                        refine lv_iload_n C.1 C.2.1 dX12_doPlace_213 rfl (lv_at hl 4 rfl) ?_
                        refine r_iast C hw 1 rfl (vp_in_nI (n := ((21 + (6 * (nF t.1))) + 1)) (by omega) (by decide)) (w' := moW G mo (mR (mR (mR U 0 t.1) 0 (upd t.1 (21 + (6 * (nF t.1))) ((U.2 0) 2))) 0 (upd (upd t.1 (21 + (6 * (nF t.1))) ((U.2 0) 2)) ((21 + (6 * (nF t.1))) + 1) (nI i))) ++ X) (by rw [show (nI ((21 + (6 * (nF t.1))) + 1)).toNatClampNeg = ((21 + (6 * (nF t.1))) + 1) from nI_clamp (by omega)]; rfl) dX12_doPlace_214 (fun H locs hw => ?_)
                        refine lv_aload_n C.1 C.2.1 dX12_doPlace_215 rfl (lv_at hl 3 rfl) ?_
                        refine r_get C hw 0 rfl rfl in_X12 0 (by decide) fl_X12_9 rfl (v := .ref (mo 1)) rfl dX12_doPlace_216 ?_
                        refine lv_iload C.1 C.2.1 dX12_doPlace_219 (lv_at hl 0 rfl) ?_
                        refine lv_iconst (v := 2) C.1 C.2.1 dX12_doPlace_221 (by decide) ?_
                        refine lv_iadd C.1 C.2.1 dX12_doPlace_222 ?_
                        refine r_toe (nI_add (21 + (6 * (nF t.1))) 2) ?_
                        refine lv_iload_n C.1 C.2.1 dX12_doPlace_223 rfl (lv_at hl 5 rfl) ?_
                        refine lv_if_eq (tgt := 231) C.1 C.2.1 dX12_doPlace_224 (by decide) (fun c_224 => ?_) (fun c_224 => absurd (by decide) c_224)
                        refine lv_iconst (v := 0) C.1 C.2.1 dX12_doPlace_231 (by decide) ?_
                        refine r_iast C hw 1 rfl (vp_in_nI (n := ((21 + (6 * (nF t.1))) + 2)) (by omega) (by decide)) (w' := moW G mo (mR (mR (mR (mR U 0 t.1) 0 (upd t.1 (21 + (6 * (nF t.1))) ((U.2 0) 2))) 0 (upd (upd t.1 (21 + (6 * (nF t.1))) ((U.2 0) 2)) ((21 + (6 * (nF t.1))) + 1) (nI i))) 0 (upd (upd (upd t.1 (21 + (6 * (nF t.1))) ((U.2 0) 2)) ((21 + (6 * (nF t.1))) + 1) (nI i)) ((21 + (6 * (nF t.1))) + 2) 0)) ++ X) (by rw [show (nI ((21 + (6 * (nF t.1))) + 2)).toNatClampNeg = ((21 + (6 * (nF t.1))) + 2) from nI_clamp (by omega)]; rfl) dX12_doPlace_232 (fun H locs hw => ?_)
                        refine lv_aload_n C.1 C.2.1 dX12_doPlace_233 rfl (lv_at hl 3 rfl) ?_
                        refine r_get C hw 0 rfl rfl in_X12 0 (by decide) fl_X12_9 rfl (v := .ref (mo 1)) rfl dX12_doPlace_234 ?_
                        refine lv_iload C.1 C.2.1 dX12_doPlace_237 (lv_at hl 0 rfl) ?_
                        refine lv_iconst (v := 3) C.1 C.2.1 dX12_doPlace_239 (by decide) ?_
                        refine lv_iadd C.1 C.2.1 dX12_doPlace_240 ?_
                        refine r_toe (nI_add (21 + (6 * (nF t.1))) 3) ?_
                        refine lv_iload_n C.1 C.2.1 dX12_doPlace_241 rfl (lv_at hl 6 rfl) ?_
                        refine r_iast C hw 1 rfl (vp_in_nI (n := ((21 + (6 * (nF t.1))) + 3)) (by omega) (by decide)) (w' := moW G mo (mR (mR (mR (mR (mR U 0 t.1) 0 (upd t.1 (21 + (6 * (nF t.1))) ((U.2 0) 2))) 0 (upd (upd t.1 (21 + (6 * (nF t.1))) ((U.2 0) 2)) ((21 + (6 * (nF t.1))) + 1) (nI i))) 0 (upd (upd (upd t.1 (21 + (6 * (nF t.1))) ((U.2 0) 2)) ((21 + (6 * (nF t.1))) + 1) (nI i)) ((21 + (6 * (nF t.1))) + 2) 0)) 0 (upd (upd (upd (upd t.1 (21 + (6 * (nF t.1))) ((U.2 0) 2)) ((21 + (6 * (nF t.1))) + 1) (nI i)) ((21 + (6 * (nF t.1))) + 2) 0) ((21 + (6 * (nF t.1))) + 3) pr)) ++ X) (by rw [show (nI ((21 + (6 * (nF t.1))) + 3)).toNatClampNeg = ((21 + (6 * (nF t.1))) + 3) from nI_clamp (by omega)]; rfl) dX12_doPlace_242 (fun H locs hw => ?_)
                        refine lv_aload_n C.1 C.2.1 dX12_doPlace_243 rfl (lv_at hl 3 rfl) ?_
                        refine r_get C hw 0 rfl rfl in_X12 0 (by decide) fl_X12_9 rfl (v := .ref (mo 1)) rfl dX12_doPlace_244 ?_
                        refine lv_iload C.1 C.2.1 dX12_doPlace_247 (lv_at hl 0 rfl) ?_
                        refine lv_iconst (v := 4) C.1 C.2.1 dX12_doPlace_249 (by decide) ?_
                        refine lv_iadd C.1 C.2.1 dX12_doPlace_250 ?_
                        refine r_toe (nI_add (21 + (6 * (nF t.1))) 4) ?_
                        refine lv_iload C.1 C.2.1 dX12_doPlace_251 (lv_at hl 1 rfl) ?_
                        refine r_iast C hw 1 rfl (vp_in_nI (n := ((21 + (6 * (nF t.1))) + 4)) (by omega) (by decide)) (w' := moW G mo (mR (mR (mR (mR (mR (mR U 0 t.1) 0 (upd t.1 (21 + (6 * (nF t.1))) ((U.2 0) 2))) 0 (upd (upd t.1 (21 + (6 * (nF t.1))) ((U.2 0) 2)) ((21 + (6 * (nF t.1))) + 1) (nI i))) 0 (upd (upd (upd t.1 (21 + (6 * (nF t.1))) ((U.2 0) 2)) ((21 + (6 * (nF t.1))) + 1) (nI i)) ((21 + (6 * (nF t.1))) + 2) 0)) 0 (upd (upd (upd (upd t.1 (21 + (6 * (nF t.1))) ((U.2 0) 2)) ((21 + (6 * (nF t.1))) + 1) (nI i)) ((21 + (6 * (nF t.1))) + 2) 0) ((21 + (6 * (nF t.1))) + 3) pr)) 0 (upd (upd (upd (upd (upd t.1 (21 + (6 * (nF t.1))) ((U.2 0) 2)) ((21 + (6 * (nF t.1))) + 1) (nI i)) ((21 + (6 * (nF t.1))) + 2) 0) ((21 + (6 * (nF t.1))) + 3) pr) ((21 + (6 * (nF t.1))) + 4) t.2)) ++ X) (by rw [show (nI ((21 + (6 * (nF t.1))) + 4)).toNatClampNeg = ((21 + (6 * (nF t.1))) + 4) from nI_clamp (by omega)]; rfl) dX12_doPlace_253 (fun H locs hw => ?_)
                        refine lv_aload_n C.1 C.2.1 dX12_doPlace_254 rfl (lv_at hl 3 rfl) ?_
                        refine r_get C hw 0 rfl rfl in_X12 0 (by decide) fl_X12_9 rfl (v := .ref (mo 1)) rfl dX12_doPlace_255 ?_
                        refine lv_iload C.1 C.2.1 dX12_doPlace_258 (lv_at hl 0 rfl) ?_
                        refine lv_iconst (v := 5) C.1 C.2.1 dX12_doPlace_260 (by decide) ?_
                        refine lv_iadd C.1 C.2.1 dX12_doPlace_261 ?_
                        refine r_toe (nI_add (21 + (6 * (nF t.1))) 5) ?_
                        refine lv_iload C.1 C.2.1 dX12_doPlace_262 (lv_at hl 8 rfl) ?_
                        refine r_iast C hw 1 rfl (vp_in_nI (n := ((21 + (6 * (nF t.1))) + 5)) (by omega) (by decide)) (w' := moW G mo (mR (mR (mR (mR (mR (mR (mR U 0 t.1) 0 (upd t.1 (21 + (6 * (nF t.1))) ((U.2 0) 2))) 0 (upd (upd t.1 (21 + (6 * (nF t.1))) ((U.2 0) 2)) ((21 + (6 * (nF t.1))) + 1) (nI i))) 0 (upd (upd (upd t.1 (21 + (6 * (nF t.1))) ((U.2 0) 2)) ((21 + (6 * (nF t.1))) + 1) (nI i)) ((21 + (6 * (nF t.1))) + 2) 0)) 0 (upd (upd (upd (upd t.1 (21 + (6 * (nF t.1))) ((U.2 0) 2)) ((21 + (6 * (nF t.1))) + 1) (nI i)) ((21 + (6 * (nF t.1))) + 2) 0) ((21 + (6 * (nF t.1))) + 3) pr)) 0 (upd (upd (upd (upd (upd t.1 (21 + (6 * (nF t.1))) ((U.2 0) 2)) ((21 + (6 * (nF t.1))) + 1) (nI i)) ((21 + (6 * (nF t.1))) + 2) 0) ((21 + (6 * (nF t.1))) + 3) pr) ((21 + (6 * (nF t.1))) + 4) t.2)) 0 (upd (upd (upd (upd (upd (upd t.1 (21 + (6 * (nF t.1))) ((U.2 0) 2)) ((21 + (6 * (nF t.1))) + 1) (nI i)) ((21 + (6 * (nF t.1))) + 2) 0) ((21 + (6 * (nF t.1))) + 3) pr) ((21 + (6 * (nF t.1))) + 4) t.2) ((21 + (6 * (nF t.1))) + 5) mi)) ++ X) (by rw [show (nI ((21 + (6 * (nF t.1))) + 5)).toNatClampNeg = ((21 + (6 * (nF t.1))) + 5) from nI_clamp (by omega)]; rfl) dX12_doPlace_264 (fun H locs hw => ?_)
                        refine lv_aload_n C.1 C.2.1 dX12_doPlace_265 rfl (lv_at hl 3 rfl) ?_
                        refine r_get C hw 0 rfl rfl in_X12 0 (by decide) fl_X12_9 rfl (v := .ref (mo 1)) rfl dX12_doPlace_266 ?_
                        refine lv_iconst (v := 1) C.1 C.2.1 dX12_doPlace_269 (by decide) ?_
                        refine lv_dup2_11 C.1 C.2.1 dX12_doPlace_270 rfl rfl ?_
                        refine r_iald C hw 1 rfl (vp_in_nI (n := 1) (by omega) (by decide)) dX12_doPlace_271 ?_
                        refine r_toe (show _ = (upd (upd (upd (upd (upd (upd t.1 (21 + (6 * (nF t.1))) ((U.2 0) 2)) ((21 + (6 * (nF t.1))) + 1) (nI i)) ((21 + (6 * (nF t.1))) + 2) 0) ((21 + (6 * (nF t.1))) + 3) pr) ((21 + (6 * (nF t.1))) + 4) t.2) ((21 + (6 * (nF t.1))) + 5) mi) 1 from congrArg (upd (upd (upd (upd (upd (upd t.1 (21 + (6 * (nF t.1))) ((U.2 0) 2)) ((21 + (6 * (nF t.1))) + 1) (nI i)) ((21 + (6 * (nF t.1))) + 2) 0) ((21 + (6 * (nF t.1))) + 3) pr) ((21 + (6 * (nF t.1))) + 4) t.2) ((21 + (6 * (nF t.1))) + 5) mi) (nI_clamp (n := 1) (by omega))) ?_
                        refine r_toe (show _ = nI (nF t.1) from (opV_1 (f := t.1) (num := U.2 0 2) (i := i) (b := false) (pr := pr) (q := t.2) (mi := mi)).trans hO.1.1) ?_
                        refine lv_iconst (v := 1) C.1 C.2.1 dX12_doPlace_272 (by decide) ?_
                        refine lv_iadd C.1 C.2.1 dX12_doPlace_273 ?_
                        refine r_toe (nI_add (nF t.1) 1) ?_
                        refine r_iast C hw 1 rfl (vp_in_nI (n := 1) (by omega) (by decide)) (w' := moW G mo (mR (mR (mR (mR (mR (mR (mR (mR U 0 t.1) 0 (upd t.1 (21 + (6 * (nF t.1))) ((U.2 0) 2))) 0 (upd (upd t.1 (21 + (6 * (nF t.1))) ((U.2 0) 2)) ((21 + (6 * (nF t.1))) + 1) (nI i))) 0 (upd (upd (upd t.1 (21 + (6 * (nF t.1))) ((U.2 0) 2)) ((21 + (6 * (nF t.1))) + 1) (nI i)) ((21 + (6 * (nF t.1))) + 2) 0)) 0 (upd (upd (upd (upd t.1 (21 + (6 * (nF t.1))) ((U.2 0) 2)) ((21 + (6 * (nF t.1))) + 1) (nI i)) ((21 + (6 * (nF t.1))) + 2) 0) ((21 + (6 * (nF t.1))) + 3) pr)) 0 (upd (upd (upd (upd (upd t.1 (21 + (6 * (nF t.1))) ((U.2 0) 2)) ((21 + (6 * (nF t.1))) + 1) (nI i)) ((21 + (6 * (nF t.1))) + 2) 0) ((21 + (6 * (nF t.1))) + 3) pr) ((21 + (6 * (nF t.1))) + 4) t.2)) 0 (upd (upd (upd (upd (upd (upd t.1 (21 + (6 * (nF t.1))) ((U.2 0) 2)) ((21 + (6 * (nF t.1))) + 1) (nI i)) ((21 + (6 * (nF t.1))) + 2) 0) ((21 + (6 * (nF t.1))) + 3) pr) ((21 + (6 * (nF t.1))) + 4) t.2) ((21 + (6 * (nF t.1))) + 5) mi)) 0 (upd (upd (upd (upd (upd (upd (upd t.1 (21 + (6 * (nF t.1))) ((U.2 0) 2)) ((21 + (6 * (nF t.1))) + 1) (nI i)) ((21 + (6 * (nF t.1))) + 2) 0) ((21 + (6 * (nF t.1))) + 3) pr) ((21 + (6 * (nF t.1))) + 4) t.2) ((21 + (6 * (nF t.1))) + 5) mi) 1 (nI ((nF t.1) + 1)))) ++ X) rfl dX12_doPlace_274 (fun H locs hw => ?_)
                        replace hw : WH G s (moW G mo (mR U 0 (opW t.1 (U.2 0 2) i false pr t.2 mi)) ++ X) H locs := hw.to (by simp only [mR_mR]; rfl)
                        refine lv_iload C.1 C.2.1 dX12_doPlace_275 (lv_at hl 2 rfl) ?_
                        exact r_iret C hw rfl rfl () (by rw [opM_g (by omega) hC ht, opE, if_neg c_168, if_neg c_179]) (by rw [opM_g (by omega) hC ht, opE, if_neg c_168, if_neg c_179]) (Nat.le_of_ble_eq_true rfl) (Nat.le_of_ble_eq_true rfl) dX12_doPlace_277
                    · refine lv_iload C.1 C.2.1 dX12_doPlace_171 (lv_at hl 6 rfl) ?_
                      refine lv_iload C.1 C.2.1 dX12_doPlace_173 (lv_at hl 0 rfl) ?_
                      refine lv_isub C.1 C.2.1 dX12_doPlace_175 ?_
                      exact r_iret C hw rfl rfl () (by rw [opM_g (by omega) hC ht, opE, if_pos c_168]) (by rw [opM_g (by omega) hC ht, opE, if_pos c_168]) (Nat.le_of_ble_eq_true rfl) (Nat.le_of_ble_eq_true rfl) dX12_doPlace_176
                  · refine lv_iload C.1 C.2.1 dX12_doPlace_149 (lv_at hl 5 rfl) ?_
                    refine lv_goto (tgt := 163) C.1 C.2.1 dX12_doPlace_151 (by decide) ?_
                    have h4 := Int32.not_lt.mpr c_112
                    have hC : opC (U.2 0) (nI i) false pr q mi = 0 := by simp [opC, b_5, b_21, b_32, c_39, c_51, c_61, c_112, nI_clamp (show i < 2 ^ 31 by omega), h4]
                    have hT : opT (U.2 0) i false pr q = (nxF (U.2 0), q) := if_pos c_146
                    have hO := opT_ok hok (i := i) (by omega) false pr q
                    obtain ⟨t, ht⟩ : ∃ t, opT (U.2 0) i false pr q = t := ⟨_, rfl⟩
                    obtain ⟨e1, e2⟩ : nxF (U.2 0) = t.1 ∧ q = t.2 := by rw [← ht, hT]; exact ⟨rfl, rfl⟩
                    rw [e1] at hw
                    rw [ht] at hO
                    refine r_toe e2 ?_
                    replace hw : WH G s (moW G mo (mR U 0 t.1) ++ X) H locs := hw
                    have htn := hO.1.2.1
                    refine lv_istore (lv' := [(7, .int t.2), (6, .int ((U.2 0) 2)), (0, .ref (mo 0)), (1, .int (nI i)), (2, .int (bI false)), (3, .int pr), (4, .int q), (5, .int mi)]) C.1 C.2.1 dX12_doPlace_163 hl (by decide) rfl (fun ls hl => ?_)
                    refine lv_iload C.1 C.2.1 dX12_doPlace_165 (lv_at hl 7 rfl) ?_
                    refine lv_iconst (v := -1) C.1 C.2.1 dX12_doPlace_167 (by decide) ?_
                    refine lv_icmp_ne (tgt := 177) C.1 C.2.1 dX12_doPlace_168 (by decide) (fun c_168 => ?_) (fun c_168 => ?_)
                    · refine lv_iload C.1 C.2.1 dX12_doPlace_177 (lv_at hl 0 rfl) ?_
                      refine lv_if_le (tgt := 275) C.1 C.2.1 dX12_doPlace_179 (by decide) (fun c_179 => ?_) (fun c_179 => ?_)
                      · refine lv_iload C.1 C.2.1 dX12_doPlace_275 (lv_at hl 1 rfl) ?_
                        exact r_iret C hw rfl rfl () (by rw [opM_g (by omega) hC ht, opE, if_neg c_168, if_pos c_179]) (by rw [opM_g (by omega) hC ht, opE, if_neg c_168, if_pos c_179]) (Nat.le_of_ble_eq_true rfl) (Nat.le_of_ble_eq_true rfl) dX12_doPlace_277
                      · refine lv_bipush (v := 21) C.1 C.2.1 dX12_doPlace_182 (by decide) ?_
                        refine lv_bipush (v := 6) C.1 C.2.1 dX12_doPlace_184 (by decide) ?_
                        refine lv_aload_n C.1 C.2.1 dX12_doPlace_186 rfl (lv_at hl 2 rfl) ?_
                        refine r_get C hw 0 rfl rfl in_X12 0 (by decide) fl_X12_9 rfl (v := .ref (mo 1)) rfl dX12_doPlace_187 ?_
                        refine lv_iconst (v := 1) C.1 C.2.1 dX12_doPlace_190 (by decide) ?_
                        refine r_iald C hw 1 rfl (vp_in_nI (n := 1) (by omega) (by decide)) dX12_doPlace_191 ?_
                        refine r_toe (show _ = t.1 1 from congrArg t.1 (nI_clamp (n := 1) (by omega))) ?_
                        refine r_toe (show _ = nI (nF t.1) from hO.1.1) ?_
                        refine lv_imul C.1 C.2.1 dX12_doPlace_192 ?_
                        refine r_toe (pk_mul 6 (nF t.1)) ?_
                        refine lv_iadd C.1 C.2.1 dX12_doPlace_193 ?_
                        refine r_toe (nI_add 21 (6 * (nF t.1))) ?_
                        refine lv_istore (lv' := [(8, .int (nI (21 + (6 * (nF t.1))))), (7, .int t.2), (6, .int ((U.2 0) 2)), (0, .ref (mo 0)), (1, .int (nI i)), (2, .int (bI false)), (3, .int pr), (4, .int q), (5, .int mi)]) C.1 C.2.1 dX12_doPlace_194 hl (by decide) rfl (fun ls hl => ?_)
                        refine lv_aload_n C.1 C.2.1 dX12_doPlace_196 rfl (lv_at hl 3 rfl) ?_
                        refine r_get C hw 0 rfl rfl in_X12 0 (by decide) fl_X12_9 rfl (v := .ref (mo 1)) rfl dX12_doPlace_197 ?_
                        refine lv_iload C.1 C.2.1 dX12_doPlace_200 (lv_at hl 0 rfl) ?_
                        refine lv_iload C.1 C.2.1 dX12_doPlace_202 (lv_at hl 2 rfl) ?_
                        refine r_iast C hw 1 rfl (vp_in_nI (n := (21 + (6 * (nF t.1)))) (by omega) (by decide)) (w' := moW G mo (mR (mR U 0 t.1) 0 (upd t.1 (21 + (6 * (nF t.1))) ((U.2 0) 2))) ++ X) (by rw [show (nI (21 + (6 * (nF t.1)))).toNatClampNeg = (21 + (6 * (nF t.1))) from nI_clamp (by omega)]; rfl) dX12_doPlace_204 (fun H locs hw => ?_)
                        refine lv_aload_n C.1 C.2.1 dX12_doPlace_205 rfl (lv_at hl 3 rfl) ?_
                        refine r_get C hw 0 rfl rfl in_X12 0 (by decide) fl_X12_9 rfl (v := .ref (mo 1)) rfl dX12_doPlace_206 ?_
                        refine lv_iload C.1 C.2.1 dX12_doPlace_209 (lv_at hl 0 rfl) ?_
                        refine lv_iconst (v := 1) C.1 C.2.1 dX12_doPlace_211 (by decide) ?_
                        refine lv_iadd C.1 C.2.1 dX12_doPlace_212 ?_
                        refine r_toe (nI_add (21 + (6 * (nF t.1))) 1) ?_
                        refine lv_iload_n C.1 C.2.1 dX12_doPlace_213 rfl (lv_at hl 4 rfl) ?_
                        refine r_iast C hw 1 rfl (vp_in_nI (n := ((21 + (6 * (nF t.1))) + 1)) (by omega) (by decide)) (w' := moW G mo (mR (mR (mR U 0 t.1) 0 (upd t.1 (21 + (6 * (nF t.1))) ((U.2 0) 2))) 0 (upd (upd t.1 (21 + (6 * (nF t.1))) ((U.2 0) 2)) ((21 + (6 * (nF t.1))) + 1) (nI i))) ++ X) (by rw [show (nI ((21 + (6 * (nF t.1))) + 1)).toNatClampNeg = ((21 + (6 * (nF t.1))) + 1) from nI_clamp (by omega)]; rfl) dX12_doPlace_214 (fun H locs hw => ?_)
                        refine lv_aload_n C.1 C.2.1 dX12_doPlace_215 rfl (lv_at hl 3 rfl) ?_
                        refine r_get C hw 0 rfl rfl in_X12 0 (by decide) fl_X12_9 rfl (v := .ref (mo 1)) rfl dX12_doPlace_216 ?_
                        refine lv_iload C.1 C.2.1 dX12_doPlace_219 (lv_at hl 0 rfl) ?_
                        refine lv_iconst (v := 2) C.1 C.2.1 dX12_doPlace_221 (by decide) ?_
                        refine lv_iadd C.1 C.2.1 dX12_doPlace_222 ?_
                        refine r_toe (nI_add (21 + (6 * (nF t.1))) 2) ?_
                        refine lv_iload_n C.1 C.2.1 dX12_doPlace_223 rfl (lv_at hl 5 rfl) ?_
                        refine lv_if_eq (tgt := 231) C.1 C.2.1 dX12_doPlace_224 (by decide) (fun c_224 => ?_) (fun c_224 => absurd (by decide) c_224)
                        refine lv_iconst (v := 0) C.1 C.2.1 dX12_doPlace_231 (by decide) ?_
                        refine r_iast C hw 1 rfl (vp_in_nI (n := ((21 + (6 * (nF t.1))) + 2)) (by omega) (by decide)) (w' := moW G mo (mR (mR (mR (mR U 0 t.1) 0 (upd t.1 (21 + (6 * (nF t.1))) ((U.2 0) 2))) 0 (upd (upd t.1 (21 + (6 * (nF t.1))) ((U.2 0) 2)) ((21 + (6 * (nF t.1))) + 1) (nI i))) 0 (upd (upd (upd t.1 (21 + (6 * (nF t.1))) ((U.2 0) 2)) ((21 + (6 * (nF t.1))) + 1) (nI i)) ((21 + (6 * (nF t.1))) + 2) 0)) ++ X) (by rw [show (nI ((21 + (6 * (nF t.1))) + 2)).toNatClampNeg = ((21 + (6 * (nF t.1))) + 2) from nI_clamp (by omega)]; rfl) dX12_doPlace_232 (fun H locs hw => ?_)
                        refine lv_aload_n C.1 C.2.1 dX12_doPlace_233 rfl (lv_at hl 3 rfl) ?_
                        refine r_get C hw 0 rfl rfl in_X12 0 (by decide) fl_X12_9 rfl (v := .ref (mo 1)) rfl dX12_doPlace_234 ?_
                        refine lv_iload C.1 C.2.1 dX12_doPlace_237 (lv_at hl 0 rfl) ?_
                        refine lv_iconst (v := 3) C.1 C.2.1 dX12_doPlace_239 (by decide) ?_
                        refine lv_iadd C.1 C.2.1 dX12_doPlace_240 ?_
                        refine r_toe (nI_add (21 + (6 * (nF t.1))) 3) ?_
                        refine lv_iload_n C.1 C.2.1 dX12_doPlace_241 rfl (lv_at hl 6 rfl) ?_
                        refine r_iast C hw 1 rfl (vp_in_nI (n := ((21 + (6 * (nF t.1))) + 3)) (by omega) (by decide)) (w' := moW G mo (mR (mR (mR (mR (mR U 0 t.1) 0 (upd t.1 (21 + (6 * (nF t.1))) ((U.2 0) 2))) 0 (upd (upd t.1 (21 + (6 * (nF t.1))) ((U.2 0) 2)) ((21 + (6 * (nF t.1))) + 1) (nI i))) 0 (upd (upd (upd t.1 (21 + (6 * (nF t.1))) ((U.2 0) 2)) ((21 + (6 * (nF t.1))) + 1) (nI i)) ((21 + (6 * (nF t.1))) + 2) 0)) 0 (upd (upd (upd (upd t.1 (21 + (6 * (nF t.1))) ((U.2 0) 2)) ((21 + (6 * (nF t.1))) + 1) (nI i)) ((21 + (6 * (nF t.1))) + 2) 0) ((21 + (6 * (nF t.1))) + 3) pr)) ++ X) (by rw [show (nI ((21 + (6 * (nF t.1))) + 3)).toNatClampNeg = ((21 + (6 * (nF t.1))) + 3) from nI_clamp (by omega)]; rfl) dX12_doPlace_242 (fun H locs hw => ?_)
                        refine lv_aload_n C.1 C.2.1 dX12_doPlace_243 rfl (lv_at hl 3 rfl) ?_
                        refine r_get C hw 0 rfl rfl in_X12 0 (by decide) fl_X12_9 rfl (v := .ref (mo 1)) rfl dX12_doPlace_244 ?_
                        refine lv_iload C.1 C.2.1 dX12_doPlace_247 (lv_at hl 0 rfl) ?_
                        refine lv_iconst (v := 4) C.1 C.2.1 dX12_doPlace_249 (by decide) ?_
                        refine lv_iadd C.1 C.2.1 dX12_doPlace_250 ?_
                        refine r_toe (nI_add (21 + (6 * (nF t.1))) 4) ?_
                        refine lv_iload C.1 C.2.1 dX12_doPlace_251 (lv_at hl 1 rfl) ?_
                        refine r_iast C hw 1 rfl (vp_in_nI (n := ((21 + (6 * (nF t.1))) + 4)) (by omega) (by decide)) (w' := moW G mo (mR (mR (mR (mR (mR (mR U 0 t.1) 0 (upd t.1 (21 + (6 * (nF t.1))) ((U.2 0) 2))) 0 (upd (upd t.1 (21 + (6 * (nF t.1))) ((U.2 0) 2)) ((21 + (6 * (nF t.1))) + 1) (nI i))) 0 (upd (upd (upd t.1 (21 + (6 * (nF t.1))) ((U.2 0) 2)) ((21 + (6 * (nF t.1))) + 1) (nI i)) ((21 + (6 * (nF t.1))) + 2) 0)) 0 (upd (upd (upd (upd t.1 (21 + (6 * (nF t.1))) ((U.2 0) 2)) ((21 + (6 * (nF t.1))) + 1) (nI i)) ((21 + (6 * (nF t.1))) + 2) 0) ((21 + (6 * (nF t.1))) + 3) pr)) 0 (upd (upd (upd (upd (upd t.1 (21 + (6 * (nF t.1))) ((U.2 0) 2)) ((21 + (6 * (nF t.1))) + 1) (nI i)) ((21 + (6 * (nF t.1))) + 2) 0) ((21 + (6 * (nF t.1))) + 3) pr) ((21 + (6 * (nF t.1))) + 4) t.2)) ++ X) (by rw [show (nI ((21 + (6 * (nF t.1))) + 4)).toNatClampNeg = ((21 + (6 * (nF t.1))) + 4) from nI_clamp (by omega)]; rfl) dX12_doPlace_253 (fun H locs hw => ?_)
                        refine lv_aload_n C.1 C.2.1 dX12_doPlace_254 rfl (lv_at hl 3 rfl) ?_
                        refine r_get C hw 0 rfl rfl in_X12 0 (by decide) fl_X12_9 rfl (v := .ref (mo 1)) rfl dX12_doPlace_255 ?_
                        refine lv_iload C.1 C.2.1 dX12_doPlace_258 (lv_at hl 0 rfl) ?_
                        refine lv_iconst (v := 5) C.1 C.2.1 dX12_doPlace_260 (by decide) ?_
                        refine lv_iadd C.1 C.2.1 dX12_doPlace_261 ?_
                        refine r_toe (nI_add (21 + (6 * (nF t.1))) 5) ?_
                        refine lv_iload C.1 C.2.1 dX12_doPlace_262 (lv_at hl 8 rfl) ?_
                        refine r_iast C hw 1 rfl (vp_in_nI (n := ((21 + (6 * (nF t.1))) + 5)) (by omega) (by decide)) (w' := moW G mo (mR (mR (mR (mR (mR (mR (mR U 0 t.1) 0 (upd t.1 (21 + (6 * (nF t.1))) ((U.2 0) 2))) 0 (upd (upd t.1 (21 + (6 * (nF t.1))) ((U.2 0) 2)) ((21 + (6 * (nF t.1))) + 1) (nI i))) 0 (upd (upd (upd t.1 (21 + (6 * (nF t.1))) ((U.2 0) 2)) ((21 + (6 * (nF t.1))) + 1) (nI i)) ((21 + (6 * (nF t.1))) + 2) 0)) 0 (upd (upd (upd (upd t.1 (21 + (6 * (nF t.1))) ((U.2 0) 2)) ((21 + (6 * (nF t.1))) + 1) (nI i)) ((21 + (6 * (nF t.1))) + 2) 0) ((21 + (6 * (nF t.1))) + 3) pr)) 0 (upd (upd (upd (upd (upd t.1 (21 + (6 * (nF t.1))) ((U.2 0) 2)) ((21 + (6 * (nF t.1))) + 1) (nI i)) ((21 + (6 * (nF t.1))) + 2) 0) ((21 + (6 * (nF t.1))) + 3) pr) ((21 + (6 * (nF t.1))) + 4) t.2)) 0 (upd (upd (upd (upd (upd (upd t.1 (21 + (6 * (nF t.1))) ((U.2 0) 2)) ((21 + (6 * (nF t.1))) + 1) (nI i)) ((21 + (6 * (nF t.1))) + 2) 0) ((21 + (6 * (nF t.1))) + 3) pr) ((21 + (6 * (nF t.1))) + 4) t.2) ((21 + (6 * (nF t.1))) + 5) mi)) ++ X) (by rw [show (nI ((21 + (6 * (nF t.1))) + 5)).toNatClampNeg = ((21 + (6 * (nF t.1))) + 5) from nI_clamp (by omega)]; rfl) dX12_doPlace_264 (fun H locs hw => ?_)
                        refine lv_aload_n C.1 C.2.1 dX12_doPlace_265 rfl (lv_at hl 3 rfl) ?_
                        refine r_get C hw 0 rfl rfl in_X12 0 (by decide) fl_X12_9 rfl (v := .ref (mo 1)) rfl dX12_doPlace_266 ?_
                        refine lv_iconst (v := 1) C.1 C.2.1 dX12_doPlace_269 (by decide) ?_
                        refine lv_dup2_11 C.1 C.2.1 dX12_doPlace_270 rfl rfl ?_
                        refine r_iald C hw 1 rfl (vp_in_nI (n := 1) (by omega) (by decide)) dX12_doPlace_271 ?_
                        refine r_toe (show _ = (upd (upd (upd (upd (upd (upd t.1 (21 + (6 * (nF t.1))) ((U.2 0) 2)) ((21 + (6 * (nF t.1))) + 1) (nI i)) ((21 + (6 * (nF t.1))) + 2) 0) ((21 + (6 * (nF t.1))) + 3) pr) ((21 + (6 * (nF t.1))) + 4) t.2) ((21 + (6 * (nF t.1))) + 5) mi) 1 from congrArg (upd (upd (upd (upd (upd (upd t.1 (21 + (6 * (nF t.1))) ((U.2 0) 2)) ((21 + (6 * (nF t.1))) + 1) (nI i)) ((21 + (6 * (nF t.1))) + 2) 0) ((21 + (6 * (nF t.1))) + 3) pr) ((21 + (6 * (nF t.1))) + 4) t.2) ((21 + (6 * (nF t.1))) + 5) mi) (nI_clamp (n := 1) (by omega))) ?_
                        refine r_toe (show _ = nI (nF t.1) from (opV_1 (f := t.1) (num := U.2 0 2) (i := i) (b := false) (pr := pr) (q := t.2) (mi := mi)).trans hO.1.1) ?_
                        refine lv_iconst (v := 1) C.1 C.2.1 dX12_doPlace_272 (by decide) ?_
                        refine lv_iadd C.1 C.2.1 dX12_doPlace_273 ?_
                        refine r_toe (nI_add (nF t.1) 1) ?_
                        refine r_iast C hw 1 rfl (vp_in_nI (n := 1) (by omega) (by decide)) (w' := moW G mo (mR (mR (mR (mR (mR (mR (mR (mR U 0 t.1) 0 (upd t.1 (21 + (6 * (nF t.1))) ((U.2 0) 2))) 0 (upd (upd t.1 (21 + (6 * (nF t.1))) ((U.2 0) 2)) ((21 + (6 * (nF t.1))) + 1) (nI i))) 0 (upd (upd (upd t.1 (21 + (6 * (nF t.1))) ((U.2 0) 2)) ((21 + (6 * (nF t.1))) + 1) (nI i)) ((21 + (6 * (nF t.1))) + 2) 0)) 0 (upd (upd (upd (upd t.1 (21 + (6 * (nF t.1))) ((U.2 0) 2)) ((21 + (6 * (nF t.1))) + 1) (nI i)) ((21 + (6 * (nF t.1))) + 2) 0) ((21 + (6 * (nF t.1))) + 3) pr)) 0 (upd (upd (upd (upd (upd t.1 (21 + (6 * (nF t.1))) ((U.2 0) 2)) ((21 + (6 * (nF t.1))) + 1) (nI i)) ((21 + (6 * (nF t.1))) + 2) 0) ((21 + (6 * (nF t.1))) + 3) pr) ((21 + (6 * (nF t.1))) + 4) t.2)) 0 (upd (upd (upd (upd (upd (upd t.1 (21 + (6 * (nF t.1))) ((U.2 0) 2)) ((21 + (6 * (nF t.1))) + 1) (nI i)) ((21 + (6 * (nF t.1))) + 2) 0) ((21 + (6 * (nF t.1))) + 3) pr) ((21 + (6 * (nF t.1))) + 4) t.2) ((21 + (6 * (nF t.1))) + 5) mi)) 0 (upd (upd (upd (upd (upd (upd (upd t.1 (21 + (6 * (nF t.1))) ((U.2 0) 2)) ((21 + (6 * (nF t.1))) + 1) (nI i)) ((21 + (6 * (nF t.1))) + 2) 0) ((21 + (6 * (nF t.1))) + 3) pr) ((21 + (6 * (nF t.1))) + 4) t.2) ((21 + (6 * (nF t.1))) + 5) mi) 1 (nI ((nF t.1) + 1)))) ++ X) rfl dX12_doPlace_274 (fun H locs hw => ?_)
                        replace hw : WH G s (moW G mo (mR U 0 (opW t.1 (U.2 0 2) i false pr t.2 mi)) ++ X) H locs := hw.to (by simp only [mR_mR]; rfl)
                        refine lv_iload C.1 C.2.1 dX12_doPlace_275 (lv_at hl 2 rfl) ?_
                        exact r_iret C hw rfl rfl () (by rw [opM_g (by omega) hC ht, opE, if_neg c_168, if_neg c_179]) (by rw [opM_g (by omega) hC ht, opE, if_neg c_168, if_neg c_179]) (Nat.le_of_ble_eq_true rfl) (Nat.le_of_ble_eq_true rfl) dX12_doPlace_277
                    · refine lv_iload C.1 C.2.1 dX12_doPlace_171 (lv_at hl 6 rfl) ?_
                      refine lv_iload C.1 C.2.1 dX12_doPlace_173 (lv_at hl 0 rfl) ?_
                      refine lv_isub C.1 C.2.1 dX12_doPlace_175 ?_
                      exact r_iret C hw rfl rfl () (by rw [opM_g (by omega) hC ht, opE, if_pos c_168]) (by rw [opM_g (by omega) hC ht, opE, if_pos c_168]) (Nat.le_of_ble_eq_true rfl) (Nat.le_of_ble_eq_true rfl) dX12_doPlace_176
                · refine lv_aload_n C.1 C.2.1 dX12_doPlace_115 rfl (lv_at hl 0 rfl) ?_
                  refine lv_iconst (v := 4) C.1 C.2.1 dX12_doPlace_116 (by decide) ?_
                  refine r_vi C hw (k12_fails hF (mo := mo) (U := U) (X := X) 4) ml_X12_90 yf_X12_fails 0 rfl rfl (As := [.int 4]) rfl rfl ⟨Nat.le_of_ble_eq_true rfl, Nat.le_of_ble_eq_true rfl⟩ ⟨Nat.le_of_ble_eq_true rfl, Nat.le_of_ble_eq_true rfl⟩ hl.1 (Nat.le_of_ble_eq_true rfl) dX12_doPlace_117 (fun r_117 _ H locs hp_117 hw => ?_)
                  obtain rfl : r_117 = 0 := hp_117
                  replace hw : WH G s (moW G mo (mI U 2 4) ++ X) H locs := hw
                  exact r_iret C hw rfl rfl () (by rw [opM_f (k := 4) (by simp [opC, b_5, b_21, b_32, c_39, c_51, c_61, c_112, nI_clamp (show i < 2 ^ 31 by omega), Int32.not_le.mp c_112]) (by decide)]) (by rw [opM_f (k := 4) (by simp [opC, b_5, b_21, b_32, c_39, c_51, c_61, c_112, nI_clamp (show i < 2 ^ 31 by omega), Int32.not_le.mp c_112]) (by decide)]) (Nat.le_of_ble_eq_true rfl) (Nat.le_of_ble_eq_true rfl) dX12_doPlace_120
              · obtain rfl : b = true := bI_ne0.mp c_85
                clear c_85
                replace hl : lv_has ls 9 [(0, .ref (mo 0)), (1, .int (nI i)), (2, .int (bI true)), (3, .int pr), (4, .int q), (5, .int mi)] := hl
                refine lv_aload_n C.1 C.2.1 dX12_doPlace_88 rfl (lv_at hl 0 rfl) ?_
                refine lv_iload_n C.1 C.2.1 dX12_doPlace_89 rfl (lv_at hl 1 rfl) ?_
                refine lv_iconst (v := 0) C.1 C.2.1 dX12_doPlace_90 (by decide) ?_
                refine r_vi C hw (k12_free_0 hF (mo := mo) (U := U) (X := X) (n := (nF (U.2 0))) hok.1 hok.2.1 (i := i) (by omega)) ml_X12_94 yf_X12_free 0 rfl rfl (As := [.int (nI i), .int 0]) rfl rfl ⟨Nat.le_of_ble_eq_true rfl, Nat.le_of_ble_eq_true rfl⟩ ⟨Nat.le_of_ble_eq_true rfl, Nat.le_of_ble_eq_true rfl⟩ hl.1 (Nat.le_of_ble_eq_true rfl) dX12_doPlace_91 (fun r_91 _ H locs hp_91 hw => ?_)
                obtain rfl : r_91 = fqR (U.2 0) i true (nF (U.2 0)) := hp_91
                replace hw : WH G s (moW G mo U ++ X) H locs := hw
                refine lv_iload_n C.1 C.2.1 dX12_doPlace_94 rfl (lv_at hl 3 rfl) ?_
                refine lv_iload C.1 C.2.1 dX12_doPlace_95 (lv_at hl 4 rfl) ?_
                refine lv_imul C.1 C.2.1 dX12_doPlace_97 ?_
                refine lv_icmp_ge (tgt := 121) C.1 C.2.1 dX12_doPlace_98 (by decide) (fun c_98 => ?_) (fun c_98 => ?_)
                · refine lv_aload_n C.1 C.2.1 dX12_doPlace_121 rfl (lv_at hl 0 rfl) ?_
                  refine r_get C hw 0 rfl rfl in_X12 0 (by decide) fl_X12_9 rfl (v := .ref (mo 1)) rfl dX12_doPlace_122 ?_
                  refine lv_iconst (v := 2) C.1 C.2.1 dX12_doPlace_125 (by decide) ?_
                  refine r_iald C hw 1 rfl (vp_in_nI (n := 2) (by omega) (by decide)) dX12_doPlace_126 ?_
                  refine r_toe (show _ = (U.2 0) 2 from congrArg (U.2 0) (nI_clamp (n := 2) (by omega))) ?_
                  refine lv_istore (lv' := [(6, .int ((U.2 0) 2)), (0, .ref (mo 0)), (1, .int (nI i)), (2, .int (bI true)), (3, .int pr), (4, .int q), (5, .int mi)]) C.1 C.2.1 dX12_doPlace_127 hl (by decide) rfl (fun ls hl => ?_)
                  refine lv_aload_n C.1 C.2.1 dX12_doPlace_129 rfl (lv_at hl 1 rfl) ?_
                  refine r_get C hw 0 rfl rfl in_X12 0 (by decide) fl_X12_9 rfl (v := .ref (mo 1)) rfl dX12_doPlace_130 ?_
                  refine lv_iconst (v := 2) C.1 C.2.1 dX12_doPlace_133 (by decide) ?_
                  refine lv_dup2_11 C.1 C.2.1 dX12_doPlace_134 rfl rfl ?_
                  refine r_iald C hw 1 rfl (vp_in_nI (n := 2) (by omega) (by decide)) dX12_doPlace_135 ?_
                  refine r_toe (show _ = (U.2 0) 2 from congrArg (U.2 0) (nI_clamp (n := 2) (by omega))) ?_
                  refine lv_iconst (v := 1) C.1 C.2.1 dX12_doPlace_136 (by decide) ?_
                  refine lv_iadd C.1 C.2.1 dX12_doPlace_137 ?_
                  refine r_iast C hw 1 rfl (vp_in_nI (n := 2) (by omega) (by decide)) (w' := moW G mo (mR U 0 (upd (U.2 0) 2 (((U.2 0) 2) + 1))) ++ X) rfl dX12_doPlace_138 (fun H locs hw => ?_)
                  replace hw : WH G s (moW G mo (mR U 0 (nxF (U.2 0))) ++ X) H locs := hw
                  refine lv_aload_n C.1 C.2.1 dX12_doPlace_139 rfl (lv_at hl 1 rfl) ?_
                  refine r_get C hw 0 rfl rfl in_X12 0 (by decide) fl_X12_9 rfl (v := .ref (mo 1)) rfl dX12_doPlace_140 ?_
                  refine lv_iconst (v := 4) C.1 C.2.1 dX12_doPlace_143 (by decide) ?_
                  refine r_iald C hw 1 rfl (vp_in_nI (n := 4) (by omega) (by decide)) dX12_doPlace_144 ?_
                  refine r_toe (show _ = (nxF (U.2 0)) 4 from congrArg (nxF (U.2 0)) (nI_clamp (n := 4) (by omega))) ?_
                  refine lv_iconst (v := 1) C.1 C.2.1 dX12_doPlace_145 (by decide) ?_
                  refine lv_icmp_ne (tgt := 154) C.1 C.2.1 dX12_doPlace_146 (by decide) (fun c_146 => ?_) (fun c_146 => ?_)
                  · refine lv_aload_n C.1 C.2.1 dX12_doPlace_154 rfl (lv_at hl 1 rfl) ?_
                    refine lv_iload_n C.1 C.2.1 dX12_doPlace_155 rfl (lv_at hl 2 rfl) ?_
                    refine lv_iload_n C.1 C.2.1 dX12_doPlace_156 rfl (lv_at hl 3 rfl) ?_
                    refine lv_iload_n C.1 C.2.1 dX12_doPlace_157 rfl (lv_at hl 4 rfl) ?_
                    refine lv_iload C.1 C.2.1 dX12_doPlace_158 (lv_at hl 5 rfl) ?_
                    refine r_vi C hw (k12_trades hF (mo := mo) (U := (mR U 0 (nxF (U.2 0)))) (X := X) (show okF (nxF (U.2 0)) from (okF_nx hok).1) (i := i) (by omega) true pr q) ml_X12_97 yf_X12_trades 0 rfl rfl (As := [.int (nI i), .int (bI true), .int pr, .int q]) rfl rfl ⟨Nat.le_of_ble_eq_true rfl, Nat.le_of_ble_eq_true rfl⟩ ⟨Nat.le_of_ble_eq_true rfl, Nat.le_of_ble_eq_true rfl⟩ hl.1 (Nat.le_of_ble_eq_true rfl) dX12_doPlace_160 (fun r_160 _ H locs hp_160 hw => ?_)
                    obtain rfl : r_160 = (mtR true i pr 21 (nxF (U.2 0)) q).2 := hp_160
                    replace hw : WH G s (moW G mo (mR (mR U 0 (nxF (U.2 0))) 0 (mtR true i pr 21 (nxF (U.2 0)) q).1) ++ X) H locs := hw
                    have h4 := Int32.not_lt.mpr c_98
                    have hC : opC (U.2 0) (nI i) true pr q mi = 0 := by simp [opC, b_5, b_21, b_32, c_39, c_51, c_61, c_98, nI_clamp (show i < 2 ^ 31 by omega), h4]
                    have hT : opT (U.2 0) i true pr q = mtR true i pr 21 (nxF (U.2 0)) q := if_neg c_146
                    have hO := opT_ok hok (i := i) (by omega) true pr q
                    rw [hT] at hO
                    obtain ⟨t, ht⟩ : ∃ t, mtR true i pr 21 (nxF (U.2 0)) q = t := ⟨_, rfl⟩
                    rw [ht] at hw hO hT
                    refine r_toe (congrArg Prod.snd ht) ?_
                    replace ht := hT
                    replace hw : WH G s (moW G mo (mR U 0 t.1) ++ X) H locs := hw.to (by rw [mR_mR])
                    have htn := hO.1.2.1
                    refine lv_istore (lv' := [(7, .int t.2), (6, .int ((U.2 0) 2)), (0, .ref (mo 0)), (1, .int (nI i)), (2, .int (bI true)), (3, .int pr), (4, .int q), (5, .int mi)]) C.1 C.2.1 dX12_doPlace_163 hl (by decide) rfl (fun ls hl => ?_)
                    refine lv_iload C.1 C.2.1 dX12_doPlace_165 (lv_at hl 7 rfl) ?_
                    refine lv_iconst (v := -1) C.1 C.2.1 dX12_doPlace_167 (by decide) ?_
                    refine lv_icmp_ne (tgt := 177) C.1 C.2.1 dX12_doPlace_168 (by decide) (fun c_168 => ?_) (fun c_168 => ?_)
                    · refine lv_iload C.1 C.2.1 dX12_doPlace_177 (lv_at hl 0 rfl) ?_
                      refine lv_if_le (tgt := 275) C.1 C.2.1 dX12_doPlace_179 (by decide) (fun c_179 => ?_) (fun c_179 => ?_)
                      · refine lv_iload C.1 C.2.1 dX12_doPlace_275 (lv_at hl 1 rfl) ?_
                        exact r_iret C hw rfl rfl () (by rw [opM_g (by omega) hC ht, opE, if_neg c_168, if_pos c_179]) (by rw [opM_g (by omega) hC ht, opE, if_neg c_168, if_pos c_179]) (Nat.le_of_ble_eq_true rfl) (Nat.le_of_ble_eq_true rfl) dX12_doPlace_277
                      · refine lv_bipush (v := 21) C.1 C.2.1 dX12_doPlace_182 (by decide) ?_
                        refine lv_bipush (v := 6) C.1 C.2.1 dX12_doPlace_184 (by decide) ?_
                        refine lv_aload_n C.1 C.2.1 dX12_doPlace_186 rfl (lv_at hl 2 rfl) ?_
                        refine r_get C hw 0 rfl rfl in_X12 0 (by decide) fl_X12_9 rfl (v := .ref (mo 1)) rfl dX12_doPlace_187 ?_
                        refine lv_iconst (v := 1) C.1 C.2.1 dX12_doPlace_190 (by decide) ?_
                        refine r_iald C hw 1 rfl (vp_in_nI (n := 1) (by omega) (by decide)) dX12_doPlace_191 ?_
                        refine r_toe (show _ = t.1 1 from congrArg t.1 (nI_clamp (n := 1) (by omega))) ?_
                        refine r_toe (show _ = nI (nF t.1) from hO.1.1) ?_
                        refine lv_imul C.1 C.2.1 dX12_doPlace_192 ?_
                        refine r_toe (pk_mul 6 (nF t.1)) ?_
                        refine lv_iadd C.1 C.2.1 dX12_doPlace_193 ?_
                        refine r_toe (nI_add 21 (6 * (nF t.1))) ?_
                        refine lv_istore (lv' := [(8, .int (nI (21 + (6 * (nF t.1))))), (7, .int t.2), (6, .int ((U.2 0) 2)), (0, .ref (mo 0)), (1, .int (nI i)), (2, .int (bI true)), (3, .int pr), (4, .int q), (5, .int mi)]) C.1 C.2.1 dX12_doPlace_194 hl (by decide) rfl (fun ls hl => ?_)
                        refine lv_aload_n C.1 C.2.1 dX12_doPlace_196 rfl (lv_at hl 3 rfl) ?_
                        refine r_get C hw 0 rfl rfl in_X12 0 (by decide) fl_X12_9 rfl (v := .ref (mo 1)) rfl dX12_doPlace_197 ?_
                        refine lv_iload C.1 C.2.1 dX12_doPlace_200 (lv_at hl 0 rfl) ?_
                        refine lv_iload C.1 C.2.1 dX12_doPlace_202 (lv_at hl 2 rfl) ?_
                        refine r_iast C hw 1 rfl (vp_in_nI (n := (21 + (6 * (nF t.1)))) (by omega) (by decide)) (w' := moW G mo (mR (mR U 0 t.1) 0 (upd t.1 (21 + (6 * (nF t.1))) ((U.2 0) 2))) ++ X) (by rw [show (nI (21 + (6 * (nF t.1)))).toNatClampNeg = (21 + (6 * (nF t.1))) from nI_clamp (by omega)]; rfl) dX12_doPlace_204 (fun H locs hw => ?_)
                        refine lv_aload_n C.1 C.2.1 dX12_doPlace_205 rfl (lv_at hl 3 rfl) ?_
                        refine r_get C hw 0 rfl rfl in_X12 0 (by decide) fl_X12_9 rfl (v := .ref (mo 1)) rfl dX12_doPlace_206 ?_
                        refine lv_iload C.1 C.2.1 dX12_doPlace_209 (lv_at hl 0 rfl) ?_
                        refine lv_iconst (v := 1) C.1 C.2.1 dX12_doPlace_211 (by decide) ?_
                        refine lv_iadd C.1 C.2.1 dX12_doPlace_212 ?_
                        refine r_toe (nI_add (21 + (6 * (nF t.1))) 1) ?_
                        refine lv_iload_n C.1 C.2.1 dX12_doPlace_213 rfl (lv_at hl 4 rfl) ?_
                        refine r_iast C hw 1 rfl (vp_in_nI (n := ((21 + (6 * (nF t.1))) + 1)) (by omega) (by decide)) (w' := moW G mo (mR (mR (mR U 0 t.1) 0 (upd t.1 (21 + (6 * (nF t.1))) ((U.2 0) 2))) 0 (upd (upd t.1 (21 + (6 * (nF t.1))) ((U.2 0) 2)) ((21 + (6 * (nF t.1))) + 1) (nI i))) ++ X) (by rw [show (nI ((21 + (6 * (nF t.1))) + 1)).toNatClampNeg = ((21 + (6 * (nF t.1))) + 1) from nI_clamp (by omega)]; rfl) dX12_doPlace_214 (fun H locs hw => ?_)
                        refine lv_aload_n C.1 C.2.1 dX12_doPlace_215 rfl (lv_at hl 3 rfl) ?_
                        refine r_get C hw 0 rfl rfl in_X12 0 (by decide) fl_X12_9 rfl (v := .ref (mo 1)) rfl dX12_doPlace_216 ?_
                        refine lv_iload C.1 C.2.1 dX12_doPlace_219 (lv_at hl 0 rfl) ?_
                        refine lv_iconst (v := 2) C.1 C.2.1 dX12_doPlace_221 (by decide) ?_
                        refine lv_iadd C.1 C.2.1 dX12_doPlace_222 ?_
                        refine r_toe (nI_add (21 + (6 * (nF t.1))) 2) ?_
                        refine lv_iload_n C.1 C.2.1 dX12_doPlace_223 rfl (lv_at hl 5 rfl) ?_
                        refine lv_if_eq (tgt := 231) C.1 C.2.1 dX12_doPlace_224 (by decide) (fun c_224 => absurd c_224 (by decide)) (fun c_224 => ?_)
                        refine lv_iconst (v := 1) C.1 C.2.1 dX12_doPlace_227 (by decide) ?_
                        refine lv_goto (tgt := 232) C.1 C.2.1 dX12_doPlace_228 (by decide) ?_
                        refine r_iast C hw 1 rfl (vp_in_nI (n := ((21 + (6 * (nF t.1))) + 2)) (by omega) (by decide)) (w' := moW G mo (mR (mR (mR (mR U 0 t.1) 0 (upd t.1 (21 + (6 * (nF t.1))) ((U.2 0) 2))) 0 (upd (upd t.1 (21 + (6 * (nF t.1))) ((U.2 0) 2)) ((21 + (6 * (nF t.1))) + 1) (nI i))) 0 (upd (upd (upd t.1 (21 + (6 * (nF t.1))) ((U.2 0) 2)) ((21 + (6 * (nF t.1))) + 1) (nI i)) ((21 + (6 * (nF t.1))) + 2) 1)) ++ X) (by rw [show (nI ((21 + (6 * (nF t.1))) + 2)).toNatClampNeg = ((21 + (6 * (nF t.1))) + 2) from nI_clamp (by omega)]; rfl) dX12_doPlace_232 (fun H locs hw => ?_)
                        refine lv_aload_n C.1 C.2.1 dX12_doPlace_233 rfl (lv_at hl 3 rfl) ?_
                        refine r_get C hw 0 rfl rfl in_X12 0 (by decide) fl_X12_9 rfl (v := .ref (mo 1)) rfl dX12_doPlace_234 ?_
                        refine lv_iload C.1 C.2.1 dX12_doPlace_237 (lv_at hl 0 rfl) ?_
                        refine lv_iconst (v := 3) C.1 C.2.1 dX12_doPlace_239 (by decide) ?_
                        refine lv_iadd C.1 C.2.1 dX12_doPlace_240 ?_
                        refine r_toe (nI_add (21 + (6 * (nF t.1))) 3) ?_
                        refine lv_iload_n C.1 C.2.1 dX12_doPlace_241 rfl (lv_at hl 6 rfl) ?_
                        refine r_iast C hw 1 rfl (vp_in_nI (n := ((21 + (6 * (nF t.1))) + 3)) (by omega) (by decide)) (w' := moW G mo (mR (mR (mR (mR (mR U 0 t.1) 0 (upd t.1 (21 + (6 * (nF t.1))) ((U.2 0) 2))) 0 (upd (upd t.1 (21 + (6 * (nF t.1))) ((U.2 0) 2)) ((21 + (6 * (nF t.1))) + 1) (nI i))) 0 (upd (upd (upd t.1 (21 + (6 * (nF t.1))) ((U.2 0) 2)) ((21 + (6 * (nF t.1))) + 1) (nI i)) ((21 + (6 * (nF t.1))) + 2) 1)) 0 (upd (upd (upd (upd t.1 (21 + (6 * (nF t.1))) ((U.2 0) 2)) ((21 + (6 * (nF t.1))) + 1) (nI i)) ((21 + (6 * (nF t.1))) + 2) 1) ((21 + (6 * (nF t.1))) + 3) pr)) ++ X) (by rw [show (nI ((21 + (6 * (nF t.1))) + 3)).toNatClampNeg = ((21 + (6 * (nF t.1))) + 3) from nI_clamp (by omega)]; rfl) dX12_doPlace_242 (fun H locs hw => ?_)
                        refine lv_aload_n C.1 C.2.1 dX12_doPlace_243 rfl (lv_at hl 3 rfl) ?_
                        refine r_get C hw 0 rfl rfl in_X12 0 (by decide) fl_X12_9 rfl (v := .ref (mo 1)) rfl dX12_doPlace_244 ?_
                        refine lv_iload C.1 C.2.1 dX12_doPlace_247 (lv_at hl 0 rfl) ?_
                        refine lv_iconst (v := 4) C.1 C.2.1 dX12_doPlace_249 (by decide) ?_
                        refine lv_iadd C.1 C.2.1 dX12_doPlace_250 ?_
                        refine r_toe (nI_add (21 + (6 * (nF t.1))) 4) ?_
                        refine lv_iload C.1 C.2.1 dX12_doPlace_251 (lv_at hl 1 rfl) ?_
                        refine r_iast C hw 1 rfl (vp_in_nI (n := ((21 + (6 * (nF t.1))) + 4)) (by omega) (by decide)) (w' := moW G mo (mR (mR (mR (mR (mR (mR U 0 t.1) 0 (upd t.1 (21 + (6 * (nF t.1))) ((U.2 0) 2))) 0 (upd (upd t.1 (21 + (6 * (nF t.1))) ((U.2 0) 2)) ((21 + (6 * (nF t.1))) + 1) (nI i))) 0 (upd (upd (upd t.1 (21 + (6 * (nF t.1))) ((U.2 0) 2)) ((21 + (6 * (nF t.1))) + 1) (nI i)) ((21 + (6 * (nF t.1))) + 2) 1)) 0 (upd (upd (upd (upd t.1 (21 + (6 * (nF t.1))) ((U.2 0) 2)) ((21 + (6 * (nF t.1))) + 1) (nI i)) ((21 + (6 * (nF t.1))) + 2) 1) ((21 + (6 * (nF t.1))) + 3) pr)) 0 (upd (upd (upd (upd (upd t.1 (21 + (6 * (nF t.1))) ((U.2 0) 2)) ((21 + (6 * (nF t.1))) + 1) (nI i)) ((21 + (6 * (nF t.1))) + 2) 1) ((21 + (6 * (nF t.1))) + 3) pr) ((21 + (6 * (nF t.1))) + 4) t.2)) ++ X) (by rw [show (nI ((21 + (6 * (nF t.1))) + 4)).toNatClampNeg = ((21 + (6 * (nF t.1))) + 4) from nI_clamp (by omega)]; rfl) dX12_doPlace_253 (fun H locs hw => ?_)
                        refine lv_aload_n C.1 C.2.1 dX12_doPlace_254 rfl (lv_at hl 3 rfl) ?_
                        refine r_get C hw 0 rfl rfl in_X12 0 (by decide) fl_X12_9 rfl (v := .ref (mo 1)) rfl dX12_doPlace_255 ?_
                        refine lv_iload C.1 C.2.1 dX12_doPlace_258 (lv_at hl 0 rfl) ?_
                        refine lv_iconst (v := 5) C.1 C.2.1 dX12_doPlace_260 (by decide) ?_
                        refine lv_iadd C.1 C.2.1 dX12_doPlace_261 ?_
                        refine r_toe (nI_add (21 + (6 * (nF t.1))) 5) ?_
                        refine lv_iload C.1 C.2.1 dX12_doPlace_262 (lv_at hl 8 rfl) ?_
                        refine r_iast C hw 1 rfl (vp_in_nI (n := ((21 + (6 * (nF t.1))) + 5)) (by omega) (by decide)) (w' := moW G mo (mR (mR (mR (mR (mR (mR (mR U 0 t.1) 0 (upd t.1 (21 + (6 * (nF t.1))) ((U.2 0) 2))) 0 (upd (upd t.1 (21 + (6 * (nF t.1))) ((U.2 0) 2)) ((21 + (6 * (nF t.1))) + 1) (nI i))) 0 (upd (upd (upd t.1 (21 + (6 * (nF t.1))) ((U.2 0) 2)) ((21 + (6 * (nF t.1))) + 1) (nI i)) ((21 + (6 * (nF t.1))) + 2) 1)) 0 (upd (upd (upd (upd t.1 (21 + (6 * (nF t.1))) ((U.2 0) 2)) ((21 + (6 * (nF t.1))) + 1) (nI i)) ((21 + (6 * (nF t.1))) + 2) 1) ((21 + (6 * (nF t.1))) + 3) pr)) 0 (upd (upd (upd (upd (upd t.1 (21 + (6 * (nF t.1))) ((U.2 0) 2)) ((21 + (6 * (nF t.1))) + 1) (nI i)) ((21 + (6 * (nF t.1))) + 2) 1) ((21 + (6 * (nF t.1))) + 3) pr) ((21 + (6 * (nF t.1))) + 4) t.2)) 0 (upd (upd (upd (upd (upd (upd t.1 (21 + (6 * (nF t.1))) ((U.2 0) 2)) ((21 + (6 * (nF t.1))) + 1) (nI i)) ((21 + (6 * (nF t.1))) + 2) 1) ((21 + (6 * (nF t.1))) + 3) pr) ((21 + (6 * (nF t.1))) + 4) t.2) ((21 + (6 * (nF t.1))) + 5) mi)) ++ X) (by rw [show (nI ((21 + (6 * (nF t.1))) + 5)).toNatClampNeg = ((21 + (6 * (nF t.1))) + 5) from nI_clamp (by omega)]; rfl) dX12_doPlace_264 (fun H locs hw => ?_)
                        refine lv_aload_n C.1 C.2.1 dX12_doPlace_265 rfl (lv_at hl 3 rfl) ?_
                        refine r_get C hw 0 rfl rfl in_X12 0 (by decide) fl_X12_9 rfl (v := .ref (mo 1)) rfl dX12_doPlace_266 ?_
                        refine lv_iconst (v := 1) C.1 C.2.1 dX12_doPlace_269 (by decide) ?_
                        refine lv_dup2_11 C.1 C.2.1 dX12_doPlace_270 rfl rfl ?_
                        refine r_iald C hw 1 rfl (vp_in_nI (n := 1) (by omega) (by decide)) dX12_doPlace_271 ?_
                        refine r_toe (show _ = (upd (upd (upd (upd (upd (upd t.1 (21 + (6 * (nF t.1))) ((U.2 0) 2)) ((21 + (6 * (nF t.1))) + 1) (nI i)) ((21 + (6 * (nF t.1))) + 2) 1) ((21 + (6 * (nF t.1))) + 3) pr) ((21 + (6 * (nF t.1))) + 4) t.2) ((21 + (6 * (nF t.1))) + 5) mi) 1 from congrArg (upd (upd (upd (upd (upd (upd t.1 (21 + (6 * (nF t.1))) ((U.2 0) 2)) ((21 + (6 * (nF t.1))) + 1) (nI i)) ((21 + (6 * (nF t.1))) + 2) 1) ((21 + (6 * (nF t.1))) + 3) pr) ((21 + (6 * (nF t.1))) + 4) t.2) ((21 + (6 * (nF t.1))) + 5) mi) (nI_clamp (n := 1) (by omega))) ?_
                        refine r_toe (show _ = nI (nF t.1) from (opV_1 (f := t.1) (num := U.2 0 2) (i := i) (b := true) (pr := pr) (q := t.2) (mi := mi)).trans hO.1.1) ?_
                        refine lv_iconst (v := 1) C.1 C.2.1 dX12_doPlace_272 (by decide) ?_
                        refine lv_iadd C.1 C.2.1 dX12_doPlace_273 ?_
                        refine r_toe (nI_add (nF t.1) 1) ?_
                        refine r_iast C hw 1 rfl (vp_in_nI (n := 1) (by omega) (by decide)) (w' := moW G mo (mR (mR (mR (mR (mR (mR (mR (mR U 0 t.1) 0 (upd t.1 (21 + (6 * (nF t.1))) ((U.2 0) 2))) 0 (upd (upd t.1 (21 + (6 * (nF t.1))) ((U.2 0) 2)) ((21 + (6 * (nF t.1))) + 1) (nI i))) 0 (upd (upd (upd t.1 (21 + (6 * (nF t.1))) ((U.2 0) 2)) ((21 + (6 * (nF t.1))) + 1) (nI i)) ((21 + (6 * (nF t.1))) + 2) 1)) 0 (upd (upd (upd (upd t.1 (21 + (6 * (nF t.1))) ((U.2 0) 2)) ((21 + (6 * (nF t.1))) + 1) (nI i)) ((21 + (6 * (nF t.1))) + 2) 1) ((21 + (6 * (nF t.1))) + 3) pr)) 0 (upd (upd (upd (upd (upd t.1 (21 + (6 * (nF t.1))) ((U.2 0) 2)) ((21 + (6 * (nF t.1))) + 1) (nI i)) ((21 + (6 * (nF t.1))) + 2) 1) ((21 + (6 * (nF t.1))) + 3) pr) ((21 + (6 * (nF t.1))) + 4) t.2)) 0 (upd (upd (upd (upd (upd (upd t.1 (21 + (6 * (nF t.1))) ((U.2 0) 2)) ((21 + (6 * (nF t.1))) + 1) (nI i)) ((21 + (6 * (nF t.1))) + 2) 1) ((21 + (6 * (nF t.1))) + 3) pr) ((21 + (6 * (nF t.1))) + 4) t.2) ((21 + (6 * (nF t.1))) + 5) mi)) 0 (upd (upd (upd (upd (upd (upd (upd t.1 (21 + (6 * (nF t.1))) ((U.2 0) 2)) ((21 + (6 * (nF t.1))) + 1) (nI i)) ((21 + (6 * (nF t.1))) + 2) 1) ((21 + (6 * (nF t.1))) + 3) pr) ((21 + (6 * (nF t.1))) + 4) t.2) ((21 + (6 * (nF t.1))) + 5) mi) 1 (nI ((nF t.1) + 1)))) ++ X) rfl dX12_doPlace_274 (fun H locs hw => ?_)
                        replace hw : WH G s (moW G mo (mR U 0 (opW t.1 (U.2 0 2) i true pr t.2 mi)) ++ X) H locs := hw.to (by simp only [mR_mR]; rfl)
                        refine lv_iload C.1 C.2.1 dX12_doPlace_275 (lv_at hl 2 rfl) ?_
                        exact r_iret C hw rfl rfl () (by rw [opM_g (by omega) hC ht, opE, if_neg c_168, if_neg c_179]) (by rw [opM_g (by omega) hC ht, opE, if_neg c_168, if_neg c_179]) (Nat.le_of_ble_eq_true rfl) (Nat.le_of_ble_eq_true rfl) dX12_doPlace_277
                    · refine lv_iload C.1 C.2.1 dX12_doPlace_171 (lv_at hl 6 rfl) ?_
                      refine lv_iload C.1 C.2.1 dX12_doPlace_173 (lv_at hl 0 rfl) ?_
                      refine lv_isub C.1 C.2.1 dX12_doPlace_175 ?_
                      exact r_iret C hw rfl rfl () (by rw [opM_g (by omega) hC ht, opE, if_pos c_168]) (by rw [opM_g (by omega) hC ht, opE, if_pos c_168]) (Nat.le_of_ble_eq_true rfl) (Nat.le_of_ble_eq_true rfl) dX12_doPlace_176
                  · refine lv_iload C.1 C.2.1 dX12_doPlace_149 (lv_at hl 5 rfl) ?_
                    refine lv_goto (tgt := 163) C.1 C.2.1 dX12_doPlace_151 (by decide) ?_
                    have h4 := Int32.not_lt.mpr c_98
                    have hC : opC (U.2 0) (nI i) true pr q mi = 0 := by simp [opC, b_5, b_21, b_32, c_39, c_51, c_61, c_98, nI_clamp (show i < 2 ^ 31 by omega), h4]
                    have hT : opT (U.2 0) i true pr q = (nxF (U.2 0), q) := if_pos c_146
                    have hO := opT_ok hok (i := i) (by omega) true pr q
                    obtain ⟨t, ht⟩ : ∃ t, opT (U.2 0) i true pr q = t := ⟨_, rfl⟩
                    obtain ⟨e1, e2⟩ : nxF (U.2 0) = t.1 ∧ q = t.2 := by rw [← ht, hT]; exact ⟨rfl, rfl⟩
                    rw [e1] at hw
                    rw [ht] at hO
                    refine r_toe e2 ?_
                    replace hw : WH G s (moW G mo (mR U 0 t.1) ++ X) H locs := hw
                    have htn := hO.1.2.1
                    refine lv_istore (lv' := [(7, .int t.2), (6, .int ((U.2 0) 2)), (0, .ref (mo 0)), (1, .int (nI i)), (2, .int (bI true)), (3, .int pr), (4, .int q), (5, .int mi)]) C.1 C.2.1 dX12_doPlace_163 hl (by decide) rfl (fun ls hl => ?_)
                    refine lv_iload C.1 C.2.1 dX12_doPlace_165 (lv_at hl 7 rfl) ?_
                    refine lv_iconst (v := -1) C.1 C.2.1 dX12_doPlace_167 (by decide) ?_
                    refine lv_icmp_ne (tgt := 177) C.1 C.2.1 dX12_doPlace_168 (by decide) (fun c_168 => ?_) (fun c_168 => ?_)
                    · refine lv_iload C.1 C.2.1 dX12_doPlace_177 (lv_at hl 0 rfl) ?_
                      refine lv_if_le (tgt := 275) C.1 C.2.1 dX12_doPlace_179 (by decide) (fun c_179 => ?_) (fun c_179 => ?_)
                      · refine lv_iload C.1 C.2.1 dX12_doPlace_275 (lv_at hl 1 rfl) ?_
                        exact r_iret C hw rfl rfl () (by rw [opM_g (by omega) hC ht, opE, if_neg c_168, if_pos c_179]) (by rw [opM_g (by omega) hC ht, opE, if_neg c_168, if_pos c_179]) (Nat.le_of_ble_eq_true rfl) (Nat.le_of_ble_eq_true rfl) dX12_doPlace_277
                      · refine lv_bipush (v := 21) C.1 C.2.1 dX12_doPlace_182 (by decide) ?_
                        refine lv_bipush (v := 6) C.1 C.2.1 dX12_doPlace_184 (by decide) ?_
                        refine lv_aload_n C.1 C.2.1 dX12_doPlace_186 rfl (lv_at hl 2 rfl) ?_
                        refine r_get C hw 0 rfl rfl in_X12 0 (by decide) fl_X12_9 rfl (v := .ref (mo 1)) rfl dX12_doPlace_187 ?_
                        refine lv_iconst (v := 1) C.1 C.2.1 dX12_doPlace_190 (by decide) ?_
                        refine r_iald C hw 1 rfl (vp_in_nI (n := 1) (by omega) (by decide)) dX12_doPlace_191 ?_
                        refine r_toe (show _ = t.1 1 from congrArg t.1 (nI_clamp (n := 1) (by omega))) ?_
                        refine r_toe (show _ = nI (nF t.1) from hO.1.1) ?_
                        refine lv_imul C.1 C.2.1 dX12_doPlace_192 ?_
                        refine r_toe (pk_mul 6 (nF t.1)) ?_
                        refine lv_iadd C.1 C.2.1 dX12_doPlace_193 ?_
                        refine r_toe (nI_add 21 (6 * (nF t.1))) ?_
                        refine lv_istore (lv' := [(8, .int (nI (21 + (6 * (nF t.1))))), (7, .int t.2), (6, .int ((U.2 0) 2)), (0, .ref (mo 0)), (1, .int (nI i)), (2, .int (bI true)), (3, .int pr), (4, .int q), (5, .int mi)]) C.1 C.2.1 dX12_doPlace_194 hl (by decide) rfl (fun ls hl => ?_)
                        refine lv_aload_n C.1 C.2.1 dX12_doPlace_196 rfl (lv_at hl 3 rfl) ?_
                        refine r_get C hw 0 rfl rfl in_X12 0 (by decide) fl_X12_9 rfl (v := .ref (mo 1)) rfl dX12_doPlace_197 ?_
                        refine lv_iload C.1 C.2.1 dX12_doPlace_200 (lv_at hl 0 rfl) ?_
                        refine lv_iload C.1 C.2.1 dX12_doPlace_202 (lv_at hl 2 rfl) ?_
                        refine r_iast C hw 1 rfl (vp_in_nI (n := (21 + (6 * (nF t.1)))) (by omega) (by decide)) (w' := moW G mo (mR (mR U 0 t.1) 0 (upd t.1 (21 + (6 * (nF t.1))) ((U.2 0) 2))) ++ X) (by rw [show (nI (21 + (6 * (nF t.1)))).toNatClampNeg = (21 + (6 * (nF t.1))) from nI_clamp (by omega)]; rfl) dX12_doPlace_204 (fun H locs hw => ?_)
                        refine lv_aload_n C.1 C.2.1 dX12_doPlace_205 rfl (lv_at hl 3 rfl) ?_
                        refine r_get C hw 0 rfl rfl in_X12 0 (by decide) fl_X12_9 rfl (v := .ref (mo 1)) rfl dX12_doPlace_206 ?_
                        refine lv_iload C.1 C.2.1 dX12_doPlace_209 (lv_at hl 0 rfl) ?_
                        refine lv_iconst (v := 1) C.1 C.2.1 dX12_doPlace_211 (by decide) ?_
                        refine lv_iadd C.1 C.2.1 dX12_doPlace_212 ?_
                        refine r_toe (nI_add (21 + (6 * (nF t.1))) 1) ?_
                        refine lv_iload_n C.1 C.2.1 dX12_doPlace_213 rfl (lv_at hl 4 rfl) ?_
                        refine r_iast C hw 1 rfl (vp_in_nI (n := ((21 + (6 * (nF t.1))) + 1)) (by omega) (by decide)) (w' := moW G mo (mR (mR (mR U 0 t.1) 0 (upd t.1 (21 + (6 * (nF t.1))) ((U.2 0) 2))) 0 (upd (upd t.1 (21 + (6 * (nF t.1))) ((U.2 0) 2)) ((21 + (6 * (nF t.1))) + 1) (nI i))) ++ X) (by rw [show (nI ((21 + (6 * (nF t.1))) + 1)).toNatClampNeg = ((21 + (6 * (nF t.1))) + 1) from nI_clamp (by omega)]; rfl) dX12_doPlace_214 (fun H locs hw => ?_)
                        refine lv_aload_n C.1 C.2.1 dX12_doPlace_215 rfl (lv_at hl 3 rfl) ?_
                        refine r_get C hw 0 rfl rfl in_X12 0 (by decide) fl_X12_9 rfl (v := .ref (mo 1)) rfl dX12_doPlace_216 ?_
                        refine lv_iload C.1 C.2.1 dX12_doPlace_219 (lv_at hl 0 rfl) ?_
                        refine lv_iconst (v := 2) C.1 C.2.1 dX12_doPlace_221 (by decide) ?_
                        refine lv_iadd C.1 C.2.1 dX12_doPlace_222 ?_
                        refine r_toe (nI_add (21 + (6 * (nF t.1))) 2) ?_
                        refine lv_iload_n C.1 C.2.1 dX12_doPlace_223 rfl (lv_at hl 5 rfl) ?_
                        refine lv_if_eq (tgt := 231) C.1 C.2.1 dX12_doPlace_224 (by decide) (fun c_224 => absurd c_224 (by decide)) (fun c_224 => ?_)
                        refine lv_iconst (v := 1) C.1 C.2.1 dX12_doPlace_227 (by decide) ?_
                        refine lv_goto (tgt := 232) C.1 C.2.1 dX12_doPlace_228 (by decide) ?_
                        refine r_iast C hw 1 rfl (vp_in_nI (n := ((21 + (6 * (nF t.1))) + 2)) (by omega) (by decide)) (w' := moW G mo (mR (mR (mR (mR U 0 t.1) 0 (upd t.1 (21 + (6 * (nF t.1))) ((U.2 0) 2))) 0 (upd (upd t.1 (21 + (6 * (nF t.1))) ((U.2 0) 2)) ((21 + (6 * (nF t.1))) + 1) (nI i))) 0 (upd (upd (upd t.1 (21 + (6 * (nF t.1))) ((U.2 0) 2)) ((21 + (6 * (nF t.1))) + 1) (nI i)) ((21 + (6 * (nF t.1))) + 2) 1)) ++ X) (by rw [show (nI ((21 + (6 * (nF t.1))) + 2)).toNatClampNeg = ((21 + (6 * (nF t.1))) + 2) from nI_clamp (by omega)]; rfl) dX12_doPlace_232 (fun H locs hw => ?_)
                        refine lv_aload_n C.1 C.2.1 dX12_doPlace_233 rfl (lv_at hl 3 rfl) ?_
                        refine r_get C hw 0 rfl rfl in_X12 0 (by decide) fl_X12_9 rfl (v := .ref (mo 1)) rfl dX12_doPlace_234 ?_
                        refine lv_iload C.1 C.2.1 dX12_doPlace_237 (lv_at hl 0 rfl) ?_
                        refine lv_iconst (v := 3) C.1 C.2.1 dX12_doPlace_239 (by decide) ?_
                        refine lv_iadd C.1 C.2.1 dX12_doPlace_240 ?_
                        refine r_toe (nI_add (21 + (6 * (nF t.1))) 3) ?_
                        refine lv_iload_n C.1 C.2.1 dX12_doPlace_241 rfl (lv_at hl 6 rfl) ?_
                        refine r_iast C hw 1 rfl (vp_in_nI (n := ((21 + (6 * (nF t.1))) + 3)) (by omega) (by decide)) (w' := moW G mo (mR (mR (mR (mR (mR U 0 t.1) 0 (upd t.1 (21 + (6 * (nF t.1))) ((U.2 0) 2))) 0 (upd (upd t.1 (21 + (6 * (nF t.1))) ((U.2 0) 2)) ((21 + (6 * (nF t.1))) + 1) (nI i))) 0 (upd (upd (upd t.1 (21 + (6 * (nF t.1))) ((U.2 0) 2)) ((21 + (6 * (nF t.1))) + 1) (nI i)) ((21 + (6 * (nF t.1))) + 2) 1)) 0 (upd (upd (upd (upd t.1 (21 + (6 * (nF t.1))) ((U.2 0) 2)) ((21 + (6 * (nF t.1))) + 1) (nI i)) ((21 + (6 * (nF t.1))) + 2) 1) ((21 + (6 * (nF t.1))) + 3) pr)) ++ X) (by rw [show (nI ((21 + (6 * (nF t.1))) + 3)).toNatClampNeg = ((21 + (6 * (nF t.1))) + 3) from nI_clamp (by omega)]; rfl) dX12_doPlace_242 (fun H locs hw => ?_)
                        refine lv_aload_n C.1 C.2.1 dX12_doPlace_243 rfl (lv_at hl 3 rfl) ?_
                        refine r_get C hw 0 rfl rfl in_X12 0 (by decide) fl_X12_9 rfl (v := .ref (mo 1)) rfl dX12_doPlace_244 ?_
                        refine lv_iload C.1 C.2.1 dX12_doPlace_247 (lv_at hl 0 rfl) ?_
                        refine lv_iconst (v := 4) C.1 C.2.1 dX12_doPlace_249 (by decide) ?_
                        refine lv_iadd C.1 C.2.1 dX12_doPlace_250 ?_
                        refine r_toe (nI_add (21 + (6 * (nF t.1))) 4) ?_
                        refine lv_iload C.1 C.2.1 dX12_doPlace_251 (lv_at hl 1 rfl) ?_
                        refine r_iast C hw 1 rfl (vp_in_nI (n := ((21 + (6 * (nF t.1))) + 4)) (by omega) (by decide)) (w' := moW G mo (mR (mR (mR (mR (mR (mR U 0 t.1) 0 (upd t.1 (21 + (6 * (nF t.1))) ((U.2 0) 2))) 0 (upd (upd t.1 (21 + (6 * (nF t.1))) ((U.2 0) 2)) ((21 + (6 * (nF t.1))) + 1) (nI i))) 0 (upd (upd (upd t.1 (21 + (6 * (nF t.1))) ((U.2 0) 2)) ((21 + (6 * (nF t.1))) + 1) (nI i)) ((21 + (6 * (nF t.1))) + 2) 1)) 0 (upd (upd (upd (upd t.1 (21 + (6 * (nF t.1))) ((U.2 0) 2)) ((21 + (6 * (nF t.1))) + 1) (nI i)) ((21 + (6 * (nF t.1))) + 2) 1) ((21 + (6 * (nF t.1))) + 3) pr)) 0 (upd (upd (upd (upd (upd t.1 (21 + (6 * (nF t.1))) ((U.2 0) 2)) ((21 + (6 * (nF t.1))) + 1) (nI i)) ((21 + (6 * (nF t.1))) + 2) 1) ((21 + (6 * (nF t.1))) + 3) pr) ((21 + (6 * (nF t.1))) + 4) t.2)) ++ X) (by rw [show (nI ((21 + (6 * (nF t.1))) + 4)).toNatClampNeg = ((21 + (6 * (nF t.1))) + 4) from nI_clamp (by omega)]; rfl) dX12_doPlace_253 (fun H locs hw => ?_)
                        refine lv_aload_n C.1 C.2.1 dX12_doPlace_254 rfl (lv_at hl 3 rfl) ?_
                        refine r_get C hw 0 rfl rfl in_X12 0 (by decide) fl_X12_9 rfl (v := .ref (mo 1)) rfl dX12_doPlace_255 ?_
                        refine lv_iload C.1 C.2.1 dX12_doPlace_258 (lv_at hl 0 rfl) ?_
                        refine lv_iconst (v := 5) C.1 C.2.1 dX12_doPlace_260 (by decide) ?_
                        refine lv_iadd C.1 C.2.1 dX12_doPlace_261 ?_
                        refine r_toe (nI_add (21 + (6 * (nF t.1))) 5) ?_
                        refine lv_iload C.1 C.2.1 dX12_doPlace_262 (lv_at hl 8 rfl) ?_
                        refine r_iast C hw 1 rfl (vp_in_nI (n := ((21 + (6 * (nF t.1))) + 5)) (by omega) (by decide)) (w' := moW G mo (mR (mR (mR (mR (mR (mR (mR U 0 t.1) 0 (upd t.1 (21 + (6 * (nF t.1))) ((U.2 0) 2))) 0 (upd (upd t.1 (21 + (6 * (nF t.1))) ((U.2 0) 2)) ((21 + (6 * (nF t.1))) + 1) (nI i))) 0 (upd (upd (upd t.1 (21 + (6 * (nF t.1))) ((U.2 0) 2)) ((21 + (6 * (nF t.1))) + 1) (nI i)) ((21 + (6 * (nF t.1))) + 2) 1)) 0 (upd (upd (upd (upd t.1 (21 + (6 * (nF t.1))) ((U.2 0) 2)) ((21 + (6 * (nF t.1))) + 1) (nI i)) ((21 + (6 * (nF t.1))) + 2) 1) ((21 + (6 * (nF t.1))) + 3) pr)) 0 (upd (upd (upd (upd (upd t.1 (21 + (6 * (nF t.1))) ((U.2 0) 2)) ((21 + (6 * (nF t.1))) + 1) (nI i)) ((21 + (6 * (nF t.1))) + 2) 1) ((21 + (6 * (nF t.1))) + 3) pr) ((21 + (6 * (nF t.1))) + 4) t.2)) 0 (upd (upd (upd (upd (upd (upd t.1 (21 + (6 * (nF t.1))) ((U.2 0) 2)) ((21 + (6 * (nF t.1))) + 1) (nI i)) ((21 + (6 * (nF t.1))) + 2) 1) ((21 + (6 * (nF t.1))) + 3) pr) ((21 + (6 * (nF t.1))) + 4) t.2) ((21 + (6 * (nF t.1))) + 5) mi)) ++ X) (by rw [show (nI ((21 + (6 * (nF t.1))) + 5)).toNatClampNeg = ((21 + (6 * (nF t.1))) + 5) from nI_clamp (by omega)]; rfl) dX12_doPlace_264 (fun H locs hw => ?_)
                        refine lv_aload_n C.1 C.2.1 dX12_doPlace_265 rfl (lv_at hl 3 rfl) ?_
                        refine r_get C hw 0 rfl rfl in_X12 0 (by decide) fl_X12_9 rfl (v := .ref (mo 1)) rfl dX12_doPlace_266 ?_
                        refine lv_iconst (v := 1) C.1 C.2.1 dX12_doPlace_269 (by decide) ?_
                        refine lv_dup2_11 C.1 C.2.1 dX12_doPlace_270 rfl rfl ?_
                        refine r_iald C hw 1 rfl (vp_in_nI (n := 1) (by omega) (by decide)) dX12_doPlace_271 ?_
                        refine r_toe (show _ = (upd (upd (upd (upd (upd (upd t.1 (21 + (6 * (nF t.1))) ((U.2 0) 2)) ((21 + (6 * (nF t.1))) + 1) (nI i)) ((21 + (6 * (nF t.1))) + 2) 1) ((21 + (6 * (nF t.1))) + 3) pr) ((21 + (6 * (nF t.1))) + 4) t.2) ((21 + (6 * (nF t.1))) + 5) mi) 1 from congrArg (upd (upd (upd (upd (upd (upd t.1 (21 + (6 * (nF t.1))) ((U.2 0) 2)) ((21 + (6 * (nF t.1))) + 1) (nI i)) ((21 + (6 * (nF t.1))) + 2) 1) ((21 + (6 * (nF t.1))) + 3) pr) ((21 + (6 * (nF t.1))) + 4) t.2) ((21 + (6 * (nF t.1))) + 5) mi) (nI_clamp (n := 1) (by omega))) ?_
                        refine r_toe (show _ = nI (nF t.1) from (opV_1 (f := t.1) (num := U.2 0 2) (i := i) (b := true) (pr := pr) (q := t.2) (mi := mi)).trans hO.1.1) ?_
                        refine lv_iconst (v := 1) C.1 C.2.1 dX12_doPlace_272 (by decide) ?_
                        refine lv_iadd C.1 C.2.1 dX12_doPlace_273 ?_
                        refine r_toe (nI_add (nF t.1) 1) ?_
                        refine r_iast C hw 1 rfl (vp_in_nI (n := 1) (by omega) (by decide)) (w' := moW G mo (mR (mR (mR (mR (mR (mR (mR (mR U 0 t.1) 0 (upd t.1 (21 + (6 * (nF t.1))) ((U.2 0) 2))) 0 (upd (upd t.1 (21 + (6 * (nF t.1))) ((U.2 0) 2)) ((21 + (6 * (nF t.1))) + 1) (nI i))) 0 (upd (upd (upd t.1 (21 + (6 * (nF t.1))) ((U.2 0) 2)) ((21 + (6 * (nF t.1))) + 1) (nI i)) ((21 + (6 * (nF t.1))) + 2) 1)) 0 (upd (upd (upd (upd t.1 (21 + (6 * (nF t.1))) ((U.2 0) 2)) ((21 + (6 * (nF t.1))) + 1) (nI i)) ((21 + (6 * (nF t.1))) + 2) 1) ((21 + (6 * (nF t.1))) + 3) pr)) 0 (upd (upd (upd (upd (upd t.1 (21 + (6 * (nF t.1))) ((U.2 0) 2)) ((21 + (6 * (nF t.1))) + 1) (nI i)) ((21 + (6 * (nF t.1))) + 2) 1) ((21 + (6 * (nF t.1))) + 3) pr) ((21 + (6 * (nF t.1))) + 4) t.2)) 0 (upd (upd (upd (upd (upd (upd t.1 (21 + (6 * (nF t.1))) ((U.2 0) 2)) ((21 + (6 * (nF t.1))) + 1) (nI i)) ((21 + (6 * (nF t.1))) + 2) 1) ((21 + (6 * (nF t.1))) + 3) pr) ((21 + (6 * (nF t.1))) + 4) t.2) ((21 + (6 * (nF t.1))) + 5) mi)) 0 (upd (upd (upd (upd (upd (upd (upd t.1 (21 + (6 * (nF t.1))) ((U.2 0) 2)) ((21 + (6 * (nF t.1))) + 1) (nI i)) ((21 + (6 * (nF t.1))) + 2) 1) ((21 + (6 * (nF t.1))) + 3) pr) ((21 + (6 * (nF t.1))) + 4) t.2) ((21 + (6 * (nF t.1))) + 5) mi) 1 (nI ((nF t.1) + 1)))) ++ X) rfl dX12_doPlace_274 (fun H locs hw => ?_)
                        replace hw : WH G s (moW G mo (mR U 0 (opW t.1 (U.2 0 2) i true pr t.2 mi)) ++ X) H locs := hw.to (by simp only [mR_mR]; rfl)
                        refine lv_iload C.1 C.2.1 dX12_doPlace_275 (lv_at hl 2 rfl) ?_
                        exact r_iret C hw rfl rfl () (by rw [opM_g (by omega) hC ht, opE, if_neg c_168, if_neg c_179]) (by rw [opM_g (by omega) hC ht, opE, if_neg c_168, if_neg c_179]) (Nat.le_of_ble_eq_true rfl) (Nat.le_of_ble_eq_true rfl) dX12_doPlace_277
                    · refine lv_iload C.1 C.2.1 dX12_doPlace_171 (lv_at hl 6 rfl) ?_
                      refine lv_iload C.1 C.2.1 dX12_doPlace_173 (lv_at hl 0 rfl) ?_
                      refine lv_isub C.1 C.2.1 dX12_doPlace_175 ?_
                      exact r_iret C hw rfl rfl () (by rw [opM_g (by omega) hC ht, opE, if_pos c_168]) (by rw [opM_g (by omega) hC ht, opE, if_pos c_168]) (Nat.le_of_ble_eq_true rfl) (Nat.le_of_ble_eq_true rfl) dX12_doPlace_176
                · refine lv_goto (tgt := 115) C.1 C.2.1 dX12_doPlace_101 (by decide) ?_
                  refine lv_aload_n C.1 C.2.1 dX12_doPlace_115 rfl (lv_at hl 0 rfl) ?_
                  refine lv_iconst (v := 4) C.1 C.2.1 dX12_doPlace_116 (by decide) ?_
                  refine r_vi C hw (k12_fails hF (mo := mo) (U := U) (X := X) 4) ml_X12_90 yf_X12_fails 0 rfl rfl (As := [.int 4]) rfl rfl ⟨Nat.le_of_ble_eq_true rfl, Nat.le_of_ble_eq_true rfl⟩ ⟨Nat.le_of_ble_eq_true rfl, Nat.le_of_ble_eq_true rfl⟩ hl.1 (Nat.le_of_ble_eq_true rfl) dX12_doPlace_117 (fun r_117 _ H locs hp_117 hw => ?_)
                  obtain rfl : r_117 = 0 := hp_117
                  replace hw : WH G s (moW G mo (mI U 2 4) ++ X) H locs := hw
                  exact r_iret C hw rfl rfl () (by rw [opM_f (k := 4) (by simp [opC, b_5, b_21, b_32, c_39, c_51, c_61, c_98, nI_clamp (show i < 2 ^ 31 by omega), Int32.not_le.mp c_98]) (by decide)]) (by rw [opM_f (k := 4) (by simp [opC, b_5, b_21, b_32, c_39, c_51, c_61, c_98, nI_clamp (show i < 2 ^ 31 by omega), Int32.not_le.mp c_98]) (by decide)]) (Nat.le_of_ble_eq_true rfl) (Nat.le_of_ble_eq_true rfl) dX12_doPlace_120
            · refine lv_goto (tgt := 78) C.1 C.2.1 dX12_doPlace_64 (by decide) ?_
              refine lv_aload_n C.1 C.2.1 dX12_doPlace_78 rfl (lv_at hl 0 rfl) ?_
              refine lv_iconst (v := 3) C.1 C.2.1 dX12_doPlace_79 (by decide) ?_
              refine r_vi C hw (k12_fails hF (mo := mo) (U := U) (X := X) 3) ml_X12_90 yf_X12_fails 0 rfl rfl (As := [.int 3]) rfl rfl ⟨Nat.le_of_ble_eq_true rfl, Nat.le_of_ble_eq_true rfl⟩ ⟨Nat.le_of_ble_eq_true rfl, Nat.le_of_ble_eq_true rfl⟩ hl.1 (Nat.le_of_ble_eq_true rfl) dX12_doPlace_80 (fun r_80 _ H locs hp_80 hw => ?_)
              obtain rfl : r_80 = 0 := hp_80
              replace hw : WH G s (moW G mo (mI U 2 3) ++ X) H locs := hw
              exact r_iret C hw rfl rfl () (by rw [opM_f (k := 3) (by simp [opC, b_5, b_21, b_32, c_39, c_51, c_61]) (by decide)]) (by rw [opM_f (k := 3) (by simp [opC, b_5, b_21, b_32, c_39, c_51, c_61]) (by decide)]) (Nat.le_of_ble_eq_true rfl) (Nat.le_of_ble_eq_true rfl) dX12_doPlace_83
        · refine lv_aload_n C.1 C.2.1 dX12_doPlace_42 rfl (lv_at hl 0 rfl) ?_
          refine lv_iconst (v := 2) C.1 C.2.1 dX12_doPlace_43 (by decide) ?_
          refine r_vi C hw (k12_fails hF (mo := mo) (U := U) (X := X) 2) ml_X12_90 yf_X12_fails 0 rfl rfl (As := [.int 2]) rfl rfl ⟨Nat.le_of_ble_eq_true rfl, Nat.le_of_ble_eq_true rfl⟩ ⟨Nat.le_of_ble_eq_true rfl, Nat.le_of_ble_eq_true rfl⟩ hl.1 (Nat.le_of_ble_eq_true rfl) dX12_doPlace_44 (fun r_44 _ H locs hp_44 hw => ?_)
          obtain rfl : r_44 = 0 := hp_44
          replace hw : WH G s (moW G mo (mI U 2 2) ++ X) H locs := hw
          exact r_iret C hw rfl rfl () (by rw [opM_f (k := 2) (by simp [opC, b_5, b_21, b_32, c_39]) (by decide)]) (by rw [opM_f (k := 2) (by simp [opC, b_5, b_21, b_32, c_39]) (by decide)]) (Nat.le_of_ble_eq_true rfl) (Nat.le_of_ble_eq_true rfl) dX12_doPlace_47
  · have b_5 := bI_eq0.mp c_5
    refine lv_aload_n C.1 C.2.1 dX12_doPlace_8 rfl (lv_at hl 0 rfl) ?_
    refine lv_iconst (v := 1) C.1 C.2.1 dX12_doPlace_9 (by decide) ?_
    refine r_vi C hw (k12_fails hF (mo := mo) (U := U) (X := X) 1) ml_X12_90 yf_X12_fails 0 rfl rfl (As := [.int 1]) rfl rfl ⟨Nat.le_of_ble_eq_true rfl, Nat.le_of_ble_eq_true rfl⟩ ⟨Nat.le_of_ble_eq_true rfl, Nat.le_of_ble_eq_true rfl⟩ hl.1 (Nat.le_of_ble_eq_true rfl) dX12_doPlace_10 (fun r_10 _ H locs hp_10 hw => ?_)
    obtain rfl : r_10 = 0 := hp_10
    replace hw : WH G s (moW G mo (mI U 2 1) ++ X) H locs := hw
    exact r_iret C hw rfl rfl () (by rw [opM_f (k := 1) (by simp [opC, b_5]) (by decide)]) (by rw [opM_f (k := 1) (by simp [opC, b_5]) (by decide)]) (Nat.le_of_ble_eq_true rfl) (Nat.le_of_ble_eq_true rfl) dX12_doPlace_13

