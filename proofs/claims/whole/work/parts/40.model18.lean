/-! The model's parser: a command -/
theorem beC_b {U : MV_} {x : Int32} {c : Nat → Int32} {n t k : Nat} : beC (mR (mI U 9 x) 6 c) n t k = beC U n t k := rfl
theorem skR_b {U : MV_} {x : Int32} {c : Nat → Int32} {n : Nat} : ∀ {L : List Int32} {t : Nat} {w : Bool}, skR (mR (mI U 9 x) 6 c) n L t w = skR U n L t w
  | [], _, _ => rfl
  | d :: L, t, w => by rw [skR, skR, beC_b, skR_b]
theorem idB_b {U : MV_} {x : Int32} {c : Nat → Int32} {n t : Nat} {w : Bool} : idB (mR (mI U 9 x) 6 c) n t w = idB U n t w := by rw [idB, idB, beC_b]
theorem nmR_b {U : MV_} {x : Int32} {c : Nat → Int32} {n : Nat} {w : Bool} : ∀ {k t : Nat} {y : Int32}, nmR (mR (mI U 9 x) 6 c) n w k t y = nmR U n w k t y
  | 0, _, _ => rfl
  | k + 1, t, y => by
    rw [nmR, nmR, idB_b, nmR_b]
    rfl
theorem rnM_b {U : MV_} {x : Int32} {c : Nat → Int32} {n mo t : Nat} {w : Bool} : rnM (mR (mI U 9 x) 6 c) n mo t w = rnM U n mo t w := by
  simp only [rnM, skR_b, idB_b, nmR_b]
theorem mo_g6 {G : Gx} {mo : Nat → Nat} {V : MV_} {R : Nat → Int32} {a b : Int32} {X : va_W} : (moW G mo (mI (mI (mR V 6 R) 5 a) 6 b) ++ X)[7]? = some (mo 7, .inl (G.2.2.1 0, 240, .inl R)) := rfl
theorem mo_s6 {G : Gx} {mo : Nat → Nat} {V : MV_} {R R' : Nat → Int32} {a b : Int32} {X : va_W} : (moW G mo (mI (mI (mR V 6 R) 5 a) 6 b) ++ X).set 7 (mo 7, .inl (G.2.2.1 0, 240, .inl R')) = moW G mo (mI (mI (mR V 6 R') 5 a) 6 b) ++ X := rfl
def rcK (f s : Int32) : Int32 := if f = 115 ∧ s = 116 then 116 else if f = 99 ∧ s = 108 then 108 else if f = 116 ∨ f = 108 then 111 else f
theorem rcK_b {f s : Int32} (h : rcK f s = 98) : f = 98 := by
  unfold rcK at h
  split at h
  · exact absurd h (by decide)
  · split at h
    · exact absurd h (by decide)
    · split at h
      · exact absurd h (by decide)
      · exact h
theorem rcK_s {f s : Int32} (h : rcK f s = 115) : ¬ f = 98 := fun q => by
  subst q
  unfold rcK at h
  split at h
  · exact absurd h (by decide)
  · split at h
    · exact absurd h (by decide)
    · split at h
      · exact absurd h (by decide)
      · exact absurd h (by decide)
def vbL (k : Int32) : List Int32 × List Nat := if k = 116 then ([115, 116, 97, 108, 108], [3, 3]) else if k = 98 then ([98, 117, 121], [1, 3, 3]) else if k = 115 then ([115, 101, 108, 108], [1, 3, 3]) else if k = 99 then ([99, 97, 110, 99, 101, 108], [3]) else if k = 112 then ([112, 97, 115, 115], [3]) else if k = 108 then ([99, 108, 111, 115, 101], []) else ([111, 112, 101, 110], [])
def rdP (U : MV_) (n : Nat) : List Nat → Nat → Nat × Bool → (Nat → Int32) → (Nat × Bool) × (Nat → Int32)
  | [], _, a, c => (a, c)
  | m :: ms, i, a, c => rdP U n ms (i + 1) (rnM U n m a.1 a.2).1 (upd c i (rnM U n m a.1 a.2).2)
def rcN (U : MV_) (n t cm : Nat) (c : Nat → Int32) (k : Int32) : (Nat × Bool) × Nat × (Nat → Int32) :=
  ((rdP U n (vbL k).2 (4 * cm + 1) (skR U n (vbL k).1 t false) (upd c (4 * cm) k)).1, cm + 1, (rdP U n (vbL k).2 (4 * cm + 1) (skR U n (vbL k).1 t false) (upd c (4 * cm) k)).2)
def rcM (U : MV_) (n t : Nat) (w : Bool) (cm : Nat) (c : Nat → Int32) : (Nat × Bool) × Nat × (Nat → Int32) :=
  if w = true then ((t, w), cm, c) else rcN U n t cm c (rcK (beC U n t 0) (beC U n t 1))
theorem vbL_116 : vbL 116 = ([115, 116, 97, 108, 108], [3, 3]) := by decide
theorem vbL_98 : vbL 98 = ([98, 117, 121], [1, 3, 3]) := by decide
theorem vbL_115 : vbL 115 = ([115, 101, 108, 108], [1, 3, 3]) := by decide
theorem vbL_99 : vbL 99 = ([99, 97, 110, 99, 101, 108], [3]) := by decide
theorem vbL_112 : vbL 112 = ([112, 97, 115, 115], [3]) := by decide
theorem vbL_108 : vbL 108 = ([99, 108, 111, 115, 101], []) := by decide
theorem vbL_d {k : Int32} (h98 : ¬ k = 98) (h99 : ¬ k = 99) (h108 : ¬ k = 108) (h112 : ¬ k = 112) (h115 : ¬ k = 115) (h116 : ¬ k = 116) : vbL k = ([111, 112, 101, 110], []) := by simp [vbL, h116, h98, h115, h99, h112, h108]
theorem tb_rc (x : Int32) (h98 : ¬ x = 98) (h99 : ¬ x = 99) (h108 : ¬ x = 108) (h112 : ¬ x = 112) (h115 : ¬ x = 115) (h116 : ¬ x = 116) : (x.toInt < 98 ∨ 116 < x.toInt) ∨ (¬ x.toInt < 98 ∧ ¬ 116 < x.toInt ∧ (#[126, 185, 238, 238, 238, 238, 238, 238, 238, 238, 229, 238, 238, 238, 207, 238, 238, 126, 91] : Array Int)[(x.toInt - 98).toNat]? = some 238) := by
  by_cases h1 : x.toInt < 98
  · exact Or.inl (Or.inl h1)
  · by_cases h2 : 116 < x.toInt
    · exact Or.inl (Or.inr h2)
    · refine Or.inr ⟨h1, h2, ?_⟩
      have key : ∀ i : Nat, i < 19 → (i = 0 ∨ i = 1 ∨ i = 10 ∨ i = 14 ∨ i = 17 ∨ i = 18 ∨ (#[126, 185, 238, 238, 238, 238, 238, 238, 238, 238, 229, 238, 238, 238, 207, 238, 238, 126, 91] : Array Int)[i]? = some 238) := by decide
      rcases key (x.toInt - 98).toNat (by omega) with q | q | q | q | q | q | q
      · exact absurd (Int32.toInt_inj.mp (by rw [show (98 : Int32).toInt = 98 from by decide]; omega)) h98
      · exact absurd (Int32.toInt_inj.mp (by rw [show (99 : Int32).toInt = 99 from by decide]; omega)) h99
      · exact absurd (Int32.toInt_inj.mp (by rw [show (108 : Int32).toInt = 108 from by decide]; omega)) h108
      · exact absurd (Int32.toInt_inj.mp (by rw [show (112 : Int32).toInt = 112 from by decide]; omega)) h112
      · exact absurd (Int32.toInt_inj.mp (by rw [show (115 : Int32).toInt = 115 from by decide]; omega)) h115
      · exact absurd (Int32.toInt_inj.mp (by rw [show (116 : Int32).toInt = 116 from by decide]; omega)) h116
      exact q
set_option maxHeartbeats 4000000 in
set_option maxRecDepth 100000 in
theorem k12_readCommand {l : Launch} {G : Gx} (hF : SF l G) {mo : Nat → Nat} {U : MV_} {X : va_W} {n : Nat} (hn1 : U.1 4 = nI n) (hn : n ≤ 60) {t0 : Nat} (ht : t0 ≤ n) (w0 : Bool) {cm : Nat} (hcm : cm < 60) (cx : Nat → Int32) : MV l G yX12_readCommand cX12_readCommand 4 7 0 0 [.ref (mo 0)] (moW G mo (mI (mI (mR (mI U 9 (nI cm)) 6 cx) 5 (nI t0)) 6 (bI w0)) ++ X) (fun _ => True) (fun _ : Unit => moW G mo (mI (mI (mR (mI U 9 (nI (rcM U n t0 w0 cm cx).2.1)) 6 (rcM U n t0 w0 cm cx).2.2) 5 (nI (rcM U n t0 w0 cm cx).1.1)) 6 (bI (rcM U n t0 w0 cm cx).1.2)) ++ X) := by
  refine mt_of hF (by decide) (Nat.le_of_ble_eq_true rfl) ?_
  intro p e s m below meth c C hin ls hl H locs hw
  have hl : lv_has ls 4 [(0, .ref (mo 0))] := hl
  obtain ⟨a216, hr_216, hs_216⟩ := lit_216 hF
  obtain ⟨a220, hr_220, hs_220⟩ := lit_220 hF
  obtain ⟨a222, hr_222, hs_222⟩ := lit_222 hF
  obtain ⟨a224, hr_224, hs_224⟩ := lit_224 hF
  obtain ⟨a226, hr_226, hs_226⟩ := lit_226 hF
  obtain ⟨a228, hr_228, hs_228⟩ := lit_228 hF
  obtain ⟨a230, hr_230, hs_230⟩ := lit_230 hF
  refine lv_aload_n C.1 C.2.1 dX12_readCommand_0 rfl (lv_at hl 0 rfl) ?_
  refine r_get C hw 0 rfl rfl in_X12 12 (by decide) fl_X12_192 rfl (v := .int (bI w0)) rfl dX12_readCommand_1 ?_
  refine lv_if_eq (tgt := 8) C.1 C.2.1 dX12_readCommand_4 (by decide) (fun c_4 => ?_) (fun c_4 => ?_)
  · obtain rfl : w0 = false := bI_eq0.mp c_4
    replace hw : WH G s (moW G mo (mI (mI (mR (mI U 9 (nI cm)) 6 cx) 5 (nI t0)) 6 (bI false)) ++ X) H locs := hw
    refine lv_aload_n C.1 C.2.1 dX12_readCommand_8 rfl (lv_at hl 0 rfl) ?_
    refine lv_iconst (v := 0) C.1 C.2.1 dX12_readCommand_9 (by decide) ?_
    refine r_vi C hw (k12_behind hF (mo := mo) (U := (mI (mI (mR (mI U 9 (nI cm)) 6 cx) 5 (nI t0)) 6 (bI false))) (X := X) (t := t0) rfl (n := n) hn1 hn (by omega) (k := 0) (by omega)) ml_X12_196 yf_X12_behind 0 rfl rfl (As := [.int 0]) rfl rfl ⟨Nat.le_of_ble_eq_true rfl, Nat.le_of_ble_eq_true rfl⟩ ⟨Nat.le_of_ble_eq_true rfl, Nat.le_of_ble_eq_true rfl⟩ hl.1 (Nat.le_of_ble_eq_true rfl) dX12_readCommand_10 (fun r_10 _ H locs hp_10 hw => ?_)
    obtain rfl : r_10 = beC U n t0 0 := hp_10
    replace hw : WH G s (moW G mo (mI (mI (mR (mI U 9 (nI cm)) 6 cx) 5 (nI t0)) 6 (bI false)) ++ X) H locs := hw
    refine lv_istore_n (lv' := [(1, .int (beC U n t0 0)), (0, .ref (mo 0))]) C.1 C.2.1 dX12_readCommand_13 rfl hl (by decide) rfl (fun ls hl => ?_)
    refine lv_aload_n C.1 C.2.1 dX12_readCommand_14 rfl (lv_at hl 1 rfl) ?_
    refine lv_iconst (v := 1) C.1 C.2.1 dX12_readCommand_15 (by decide) ?_
    refine r_vi C hw (k12_behind hF (mo := mo) (U := (mI (mI (mR (mI U 9 (nI cm)) 6 cx) 5 (nI t0)) 6 (bI false))) (X := X) (t := t0) rfl (n := n) hn1 hn (by omega) (k := 1) (by omega)) ml_X12_196 yf_X12_behind 0 rfl rfl (As := [.int 1]) rfl rfl ⟨Nat.le_of_ble_eq_true rfl, Nat.le_of_ble_eq_true rfl⟩ ⟨Nat.le_of_ble_eq_true rfl, Nat.le_of_ble_eq_true rfl⟩ hl.1 (Nat.le_of_ble_eq_true rfl) dX12_readCommand_16 (fun r_16 _ H locs hp_16 hw => ?_)
    obtain rfl : r_16 = beC U n t0 1 := hp_16
    replace hw : WH G s (moW G mo (mI (mI (mR (mI U 9 (nI cm)) 6 cx) 5 (nI t0)) 6 (bI false)) ++ X) H locs := hw
    refine lv_istore_n (lv' := [(2, .int (beC U n t0 1)), (1, .int (beC U n t0 0)), (0, .ref (mo 0))]) C.1 C.2.1 dX12_readCommand_19 rfl hl (by decide) rfl (fun ls hl => ?_)
    refine lv_iconst (v := 4) C.1 C.2.1 dX12_readCommand_20 (by decide) ?_
    refine lv_aload_n C.1 C.2.1 dX12_readCommand_21 rfl (lv_at hl 2 rfl) ?_
    refine r_get C hw 0 rfl rfl in_X12 16 (by decide) fl_X12_213 rfl (v := .int (nI cm)) rfl dX12_readCommand_22 ?_
    refine lv_imul C.1 C.2.1 dX12_readCommand_25 ?_
    refine r_toe (pk_mul 4 cm) ?_
    refine lv_istore_n (lv' := [(3, .int (nI (4 * cm))), (2, .int (beC U n t0 1)), (1, .int (beC U n t0 0)), (0, .ref (mo 0))]) C.1 C.2.1 dX12_readCommand_26 rfl hl (by decide) rfl (fun ls hl => ?_)
    refine lv_aload_n C.1 C.2.1 dX12_readCommand_27 rfl (lv_at hl 3 rfl) ?_
    refine lv_dup C.1 C.2.1 dX12_readCommand_28 rfl ?_
    refine r_get C hw 0 rfl rfl in_X12 16 (by decide) fl_X12_213 rfl (v := .int (nI cm)) rfl dX12_readCommand_29 ?_
    refine lv_iconst (v := 1) C.1 C.2.1 dX12_readCommand_32 (by decide) ?_
    refine lv_iadd C.1 C.2.1 dX12_readCommand_33 ?_
    refine r_toe (nI_add cm 1) ?_
    refine r_put C hw 0 rfl rfl in_X12 tyX12 tyX12_ok nmX12 16 (by decide) fl_X12_213 rfl rfl rfl rfl (Nat.le_of_ble_eq_true rfl) (w' := moW G mo (mI (mI (mR (mI U 9 (nI (cm + 1))) 6 cx) 5 (nI t0)) 6 (bI false)) ++ X) rfl dX12_readCommand_34 (fun H locs hw => ?_)
    refine lv_aload_n C.1 C.2.1 dX12_readCommand_37 rfl (lv_at hl 3 rfl) ?_
    refine r_get C hw 0 rfl rfl in_X12 15 (by decide) fl_X12_36 rfl (v := .ref (mo 7)) rfl dX12_readCommand_38 ?_
    refine lv_iload_n C.1 C.2.1 dX12_readCommand_41 rfl (lv_at hl 0 rfl) ?_
    refine w_join (σ := Int32) G (pc1 := 94) (fun kx => kx = rcK (beC U n t0 0) (beC U n t0 1)) (fun kx => moW G mo (mI (mI (mR (mI U 9 (nI (cm + 1))) 6 cx) 5 (nI t0)) 6 (bI false)) ++ X) (fun kx => 0) (fun kx => 0) (fun kx => [(0, .ref (mo 0)), (1, .int (beC U n t0 0)), (2, .int (beC U n t0 1)), (3, .int (nI (4 * cm)))]) (fun kx => [.int kx, .int (nI (4 * cm)), .ref (mo 7)]) 4 (fun cont94 => ?_) ?_
    · refine lv_iload_n C.1 C.2.1 dX12_readCommand_42 rfl (lv_at hl 2 rfl) ?_
      refine lv_bipush (v := 115) C.1 C.2.1 dX12_readCommand_43 (by decide) ?_
      refine lv_icmp_ne (tgt := 59) C.1 C.2.1 dX12_readCommand_45 (by decide) (fun c_45 => ?_) (fun c_45 => ?_)
      · refine lv_iload_n C.1 C.2.1 dX12_readCommand_59 rfl (lv_at hl 2 rfl) ?_
        refine lv_bipush (v := 99) C.1 C.2.1 dX12_readCommand_60 (by decide) ?_
        refine lv_icmp_ne (tgt := 76) C.1 C.2.1 dX12_readCommand_62 (by decide) (fun c_62 => ?_) (fun c_62 => ?_)
        · refine lv_iload_n C.1 C.2.1 dX12_readCommand_76 rfl (lv_at hl 2 rfl) ?_
          refine lv_bipush (v := 116) C.1 C.2.1 dX12_readCommand_77 (by decide) ?_
          refine lv_icmp_eq (tgt := 88) C.1 C.2.1 dX12_readCommand_79 (by decide) (fun c_79 => ?_) (fun c_79 => ?_)
          · refine lv_bipush (v := 111) C.1 C.2.1 dX12_readCommand_88 (by decide) ?_
            refine lv_goto (tgt := 94) C.1 C.2.1 dX12_readCommand_90 (by decide) ?_
            exact cont94 111 (by simp [rcK, c_45, c_62, c_79]) _ _ hw _ (lv_sub hl [3, 2, 1, 0] rfl)
          · refine lv_iload_n C.1 C.2.1 dX12_readCommand_82 rfl (lv_at hl 2 rfl) ?_
            refine lv_bipush (v := 108) C.1 C.2.1 dX12_readCommand_83 (by decide) ?_
            refine lv_icmp_ne (tgt := 93) C.1 C.2.1 dX12_readCommand_85 (by decide) (fun c_85 => ?_) (fun c_85 => ?_)
            · refine lv_iload_n C.1 C.2.1 dX12_readCommand_93 rfl (lv_at hl 2 rfl) ?_
              exact cont94 (beC U n t0 0) (by simp [rcK, c_45, c_62, c_79, c_85]) _ _ hw _ (lv_sub hl [3, 2, 1, 0] rfl)
            · refine lv_bipush (v := 111) C.1 C.2.1 dX12_readCommand_88 (by decide) ?_
              refine lv_goto (tgt := 94) C.1 C.2.1 dX12_readCommand_90 (by decide) ?_
              exact cont94 111 (by simp [rcK, c_45, c_62, c_79, c_85]) _ _ hw _ (lv_sub hl [3, 2, 1, 0] rfl)
        · refine lv_iload_n C.1 C.2.1 dX12_readCommand_65 rfl (lv_at hl 1 rfl) ?_
          refine lv_bipush (v := 108) C.1 C.2.1 dX12_readCommand_66 (by decide) ?_
          refine lv_icmp_ne (tgt := 76) C.1 C.2.1 dX12_readCommand_68 (by decide) (fun c_68 => ?_) (fun c_68 => ?_)
          · refine lv_iload_n C.1 C.2.1 dX12_readCommand_76 rfl (lv_at hl 2 rfl) ?_
            refine lv_bipush (v := 116) C.1 C.2.1 dX12_readCommand_77 (by decide) ?_
            refine lv_icmp_eq (tgt := 88) C.1 C.2.1 dX12_readCommand_79 (by decide) (fun c_79 => absurd c_79 (fun q => absurd (c_62.symm.trans q) (by decide))) (fun c_79 => ?_)
            refine lv_iload_n C.1 C.2.1 dX12_readCommand_82 rfl (lv_at hl 2 rfl) ?_
            refine lv_bipush (v := 108) C.1 C.2.1 dX12_readCommand_83 (by decide) ?_
            refine lv_icmp_ne (tgt := 93) C.1 C.2.1 dX12_readCommand_85 (by decide) (fun c_85 => ?_) (fun c_85 => absurd c_85 (fun q => absurd (c_62.symm.trans q) (by decide)))
            refine lv_iload_n C.1 C.2.1 dX12_readCommand_93 rfl (lv_at hl 2 rfl) ?_
            exact cont94 (beC U n t0 0) (by simp [rcK, c_45, c_62, c_68, c_79, c_85]) _ _ hw _ (lv_sub hl [3, 2, 1, 0] rfl)
          · refine lv_bipush (v := 108) C.1 C.2.1 dX12_readCommand_71 (by decide) ?_
            refine lv_goto (tgt := 94) C.1 C.2.1 dX12_readCommand_73 (by decide) ?_
            exact cont94 108 (by simp [rcK, c_45, c_62, c_68]) _ _ hw _ (lv_sub hl [3, 2, 1, 0] rfl)
      · refine lv_iload_n C.1 C.2.1 dX12_readCommand_48 rfl (lv_at hl 1 rfl) ?_
        refine lv_bipush (v := 116) C.1 C.2.1 dX12_readCommand_49 (by decide) ?_
        refine lv_icmp_ne (tgt := 59) C.1 C.2.1 dX12_readCommand_51 (by decide) (fun c_51 => ?_) (fun c_51 => ?_)
        · refine lv_iload_n C.1 C.2.1 dX12_readCommand_59 rfl (lv_at hl 2 rfl) ?_
          refine lv_bipush (v := 99) C.1 C.2.1 dX12_readCommand_60 (by decide) ?_
          refine lv_icmp_ne (tgt := 76) C.1 C.2.1 dX12_readCommand_62 (by decide) (fun c_62 => ?_) (fun c_62 => absurd c_62 (fun q => absurd (c_45.symm.trans q) (by decide)))
          refine lv_iload_n C.1 C.2.1 dX12_readCommand_76 rfl (lv_at hl 2 rfl) ?_
          refine lv_bipush (v := 116) C.1 C.2.1 dX12_readCommand_77 (by decide) ?_
          refine lv_icmp_eq (tgt := 88) C.1 C.2.1 dX12_readCommand_79 (by decide) (fun c_79 => absurd c_79 (fun q => absurd (c_45.symm.trans q) (by decide))) (fun c_79 => ?_)
          refine lv_iload_n C.1 C.2.1 dX12_readCommand_82 rfl (lv_at hl 2 rfl) ?_
          refine lv_bipush (v := 108) C.1 C.2.1 dX12_readCommand_83 (by decide) ?_
          refine lv_icmp_ne (tgt := 93) C.1 C.2.1 dX12_readCommand_85 (by decide) (fun c_85 => ?_) (fun c_85 => absurd c_85 (fun q => absurd (c_45.symm.trans q) (by decide)))
          refine lv_iload_n C.1 C.2.1 dX12_readCommand_93 rfl (lv_at hl 2 rfl) ?_
          exact cont94 (beC U n t0 0) (by simp [rcK, c_45, c_51, c_62, c_79, c_85]) _ _ hw _ (lv_sub hl [3, 2, 1, 0] rfl)
        · refine lv_bipush (v := 116) C.1 C.2.1 dX12_readCommand_54 (by decide) ?_
          refine lv_goto (tgt := 94) C.1 C.2.1 dX12_readCommand_56 (by decide) ?_
          exact cont94 116 (by simp [rcK, c_45, c_51]) _ _ hw _ (lv_sub hl [3, 2, 1, 0] rfl)
    · rintro kx ekx H locs hw ls hl
      replace hw : WH G s (moW G mo (mI (mI (mR (mI U 9 (nI (cm + 1))) 6 cx) 5 (nI t0)) 6 (bI false)) ++ X) H locs := hw
      replace hl : lv_has ls 4 [(0, .ref (mo 0)), (1, .int (beC U n t0 0)), (2, .int (beC U n t0 1)), (3, .int (nI (4 * cm)))] := hl
      refine r_iast C hw 7 mo_g6 (vp_in_nI (n := (4 * cm)) (by omega) (by decide)) (w' := moW G mo (mI (mI (mR (mI U 9 (nI (cm + 1))) 6 (upd cx (4 * cm) kx)) 5 (nI t0)) 6 (bI false)) ++ X) (by rw [show (nI (4 * cm)).toNatClampNeg = (4 * cm) from nI_clamp (by omega)]; exact mo_s6) dX12_readCommand_94 (fun H locs hw => ?_)
      refine lv_aload_n C.1 C.2.1 dX12_readCommand_95 rfl (lv_at hl 0 rfl) ?_
      refine r_get C hw 0 rfl rfl in_X12 15 (by decide) fl_X12_36 rfl (v := .ref (mo 7)) rfl dX12_readCommand_96 ?_
      refine lv_iload_n C.1 C.2.1 dX12_readCommand_99 rfl (lv_at hl 3 rfl) ?_
      refine r_iald C hw 7 mo_g6 (vp_in_nI (n := (4 * cm)) (by omega) (by decide)) dX12_readCommand_100 ?_
      refine r_toe (show _ = (upd cx (4 * cm) kx) (4 * cm) from congrArg (upd cx (4 * cm) kx) (nI_clamp (n := (4 * cm)) (by omega))) ?_
      refine r_toe (show _ = kx from pk_us) ?_
      by_cases hk101_98 : kx = 98
      · rw [hk101_98]
        refine lv_tableIn (tgt := 227) C.1 C.2.1 dX12_readCommand_101 (by decide) (by decide) (off := 126) (by decide) (by decide) ?_
        refine lv_aload_n C.1 C.2.1 dX12_readCommand_227 rfl (lv_at hl 0 rfl) ?_
        refine lv_iload_n C.1 C.2.1 dX12_readCommand_228 rfl (lv_at hl 1 rfl) ?_
        refine lv_bipush (v := 98) C.1 C.2.1 dX12_readCommand_229 (by decide) ?_
        refine lv_icmp_ne (tgt := 239) C.1 C.2.1 dX12_readCommand_231 (by decide) (fun c_231 => absurd (rcK_b (ekx.symm.trans hk101_98)) c_231) (fun c_231 => ?_)
        refine r_ldcS C hr_220 dX12_readCommand_234 ?_
        refine lv_goto (tgt := 241) C.1 C.2.1 dX12_readCommand_236 (by decide) ?_
        refine r_vv C hw (k12_skip hF (mo := mo) (U := (mR (mI U 9 (nI (cm + 1))) 6 (upd cx (4 * cm) kx))) (X := X) (n := n) hn1 hn (L := [98, 117, 121]) (by decide) hs_220 (t0 := t0) ht false) ml_X12_205 yf_X12_skip 0 rfl rfl (As := [.ref a220]) rfl rfl ⟨Nat.le_of_ble_eq_true rfl, Nat.le_of_ble_eq_true rfl⟩ ⟨Nat.le_of_ble_eq_true rfl, Nat.le_of_ble_eq_true rfl⟩ hl.1 (Nat.le_of_ble_eq_true rfl) dX12_readCommand_241 (fun _ H locs hp_241 hw => ?_)
        rw [skR_b] at hw
        have htn_241 := skR_le (U := U) (n := n) (L := [98, 117, 121]) (w := false) (show t0 ≤ n from ht)
        generalize hq_241 : skR U n [98, 117, 121] t0 false = sk_241 at hw htn_241
        replace hw : WH G s (moW G mo (mI (mI (mR (mI U 9 (nI (cm + 1))) 6 (upd cx (4 * cm) kx)) 5 (nI (sk_241.1))) 6 (bI sk_241.2)) ++ X) H locs := hw
        refine lv_aload_n C.1 C.2.1 dX12_readCommand_244 rfl (lv_at hl 0 rfl) ?_
        refine r_get C hw 0 rfl rfl in_X12 15 (by decide) fl_X12_36 rfl (v := .ref (mo 7)) rfl dX12_readCommand_245 ?_
        refine lv_iload_n C.1 C.2.1 dX12_readCommand_248 rfl (lv_at hl 3 rfl) ?_
        refine lv_iconst (v := 1) C.1 C.2.1 dX12_readCommand_249 (by decide) ?_
        refine lv_iadd C.1 C.2.1 dX12_readCommand_250 ?_
        refine r_toe (nI_add (4 * cm) 1) ?_
        refine lv_aload_n C.1 C.2.1 dX12_readCommand_251 rfl (lv_at hl 0 rfl) ?_
        refine lv_iconst (v := 1) C.1 C.2.1 dX12_readCommand_252 (by decide) ?_
        refine r_vi C hw (k12_readNumber hF (mo := mo) (U := (mR (mI U 9 (nI (cm + 1))) 6 (upd cx (4 * cm) kx))) (X := X) (n := n) hn1 hn (mo1 := 1) (by decide) (t0 := (sk_241.1)) htn_241 sk_241.2) ml_X12_217 yf_X12_readNumber 0 rfl rfl (As := [.int 1]) rfl rfl ⟨Nat.le_of_ble_eq_true rfl, Nat.le_of_ble_eq_true rfl⟩ ⟨Nat.le_of_ble_eq_true rfl, Nat.le_of_ble_eq_true rfl⟩ hl.1 (Nat.le_of_ble_eq_true rfl) dX12_readCommand_253 (fun r_253 _ H locs hp_253 hw => ?_)
        rw [rnM_b] at hp_253 hw
        have htn_253 := rnM_le (U := U) (n := n) (mo := 1) (w := sk_241.2) (show (sk_241.1) ≤ n from htn_241)
        generalize hq_253 : rnM U n 1 (sk_241.1) sk_241.2 = rn_253 at hw hp_253 htn_253
        obtain rfl : r_253 = rn_253.2 := hp_253
        replace hw : WH G s (moW G mo (mI (mI (mR (mI U 9 (nI (cm + 1))) 6 (upd cx (4 * cm) kx)) 5 (nI (rn_253.1.1))) 6 (bI rn_253.1.2)) ++ X) H locs := hw
        refine r_iast C hw 7 mo_g6 (vp_in_nI (n := ((4 * cm) + 1)) (by omega) (by decide)) (w' := moW G mo (mI (mI (mR (mI U 9 (nI (cm + 1))) 6 (upd (upd cx (4 * cm) kx) ((4 * cm) + 1) (rn_253.2))) 5 (nI (rn_253.1.1))) 6 (bI rn_253.1.2)) ++ X) (by rw [show (nI ((4 * cm) + 1)).toNatClampNeg = ((4 * cm) + 1) from nI_clamp (by omega)]; exact mo_s6) dX12_readCommand_256 (fun H locs hw => ?_)
        refine lv_aload_n C.1 C.2.1 dX12_readCommand_257 rfl (lv_at hl 0 rfl) ?_
        refine r_get C hw 0 rfl rfl in_X12 15 (by decide) fl_X12_36 rfl (v := .ref (mo 7)) rfl dX12_readCommand_258 ?_
        refine lv_iload_n C.1 C.2.1 dX12_readCommand_261 rfl (lv_at hl 3 rfl) ?_
        refine lv_iconst (v := 2) C.1 C.2.1 dX12_readCommand_262 (by decide) ?_
        refine lv_iadd C.1 C.2.1 dX12_readCommand_263 ?_
        refine r_toe (nI_add (4 * cm) 2) ?_
        refine lv_aload_n C.1 C.2.1 dX12_readCommand_264 rfl (lv_at hl 0 rfl) ?_
        refine lv_iconst (v := 3) C.1 C.2.1 dX12_readCommand_265 (by decide) ?_
        refine r_vi C hw (k12_readNumber hF (mo := mo) (U := (mR (mI U 9 (nI (cm + 1))) 6 (upd (upd cx (4 * cm) kx) ((4 * cm) + 1) (rn_253.2)))) (X := X) (n := n) hn1 hn (mo1 := 3) (by decide) (t0 := (rn_253.1.1)) htn_253 rn_253.1.2) ml_X12_217 yf_X12_readNumber 0 rfl rfl (As := [.int 3]) rfl rfl ⟨Nat.le_of_ble_eq_true rfl, Nat.le_of_ble_eq_true rfl⟩ ⟨Nat.le_of_ble_eq_true rfl, Nat.le_of_ble_eq_true rfl⟩ hl.1 (Nat.le_of_ble_eq_true rfl) dX12_readCommand_266 (fun r_266 _ H locs hp_266 hw => ?_)
        rw [rnM_b] at hp_266 hw
        have htn_266 := rnM_le (U := U) (n := n) (mo := 3) (w := rn_253.1.2) (show (rn_253.1.1) ≤ n from htn_253)
        generalize hq_266 : rnM U n 3 (rn_253.1.1) rn_253.1.2 = rn_266 at hw hp_266 htn_266
        obtain rfl : r_266 = rn_266.2 := hp_266
        replace hw : WH G s (moW G mo (mI (mI (mR (mI U 9 (nI (cm + 1))) 6 (upd (upd cx (4 * cm) kx) ((4 * cm) + 1) (rn_253.2))) 5 (nI (rn_266.1.1))) 6 (bI rn_266.1.2)) ++ X) H locs := hw
        refine r_iast C hw 7 mo_g6 (vp_in_nI (n := ((4 * cm) + 2)) (by omega) (by decide)) (w' := moW G mo (mI (mI (mR (mI U 9 (nI (cm + 1))) 6 (upd (upd (upd cx (4 * cm) kx) ((4 * cm) + 1) (rn_253.2)) ((4 * cm) + 2) (rn_266.2))) 5 (nI (rn_266.1.1))) 6 (bI rn_266.1.2)) ++ X) (by rw [show (nI ((4 * cm) + 2)).toNatClampNeg = ((4 * cm) + 2) from nI_clamp (by omega)]; exact mo_s6) dX12_readCommand_269 (fun H locs hw => ?_)
        refine lv_aload_n C.1 C.2.1 dX12_readCommand_270 rfl (lv_at hl 0 rfl) ?_
        refine r_get C hw 0 rfl rfl in_X12 15 (by decide) fl_X12_36 rfl (v := .ref (mo 7)) rfl dX12_readCommand_271 ?_
        refine lv_iload_n C.1 C.2.1 dX12_readCommand_274 rfl (lv_at hl 3 rfl) ?_
        refine lv_iconst (v := 3) C.1 C.2.1 dX12_readCommand_275 (by decide) ?_
        refine lv_iadd C.1 C.2.1 dX12_readCommand_276 ?_
        refine r_toe (nI_add (4 * cm) 3) ?_
        refine lv_aload_n C.1 C.2.1 dX12_readCommand_277 rfl (lv_at hl 0 rfl) ?_
        refine lv_iconst (v := 3) C.1 C.2.1 dX12_readCommand_278 (by decide) ?_
        refine r_vi C hw (k12_readNumber hF (mo := mo) (U := (mR (mI U 9 (nI (cm + 1))) 6 (upd (upd (upd cx (4 * cm) kx) ((4 * cm) + 1) (rn_253.2)) ((4 * cm) + 2) (rn_266.2)))) (X := X) (n := n) hn1 hn (mo1 := 3) (by decide) (t0 := (rn_266.1.1)) htn_266 rn_266.1.2) ml_X12_217 yf_X12_readNumber 0 rfl rfl (As := [.int 3]) rfl rfl ⟨Nat.le_of_ble_eq_true rfl, Nat.le_of_ble_eq_true rfl⟩ ⟨Nat.le_of_ble_eq_true rfl, Nat.le_of_ble_eq_true rfl⟩ hl.1 (Nat.le_of_ble_eq_true rfl) dX12_readCommand_279 (fun r_279 _ H locs hp_279 hw => ?_)
        rw [rnM_b] at hp_279 hw
        have htn_279 := rnM_le (U := U) (n := n) (mo := 3) (w := rn_266.1.2) (show (rn_266.1.1) ≤ n from htn_266)
        generalize hq_279 : rnM U n 3 (rn_266.1.1) rn_266.1.2 = rn_279 at hw hp_279 htn_279
        obtain rfl : r_279 = rn_279.2 := hp_279
        replace hw : WH G s (moW G mo (mI (mI (mR (mI U 9 (nI (cm + 1))) 6 (upd (upd (upd cx (4 * cm) kx) ((4 * cm) + 1) (rn_253.2)) ((4 * cm) + 2) (rn_266.2))) 5 (nI (rn_279.1.1))) 6 (bI rn_279.1.2)) ++ X) H locs := hw
        refine r_iast C hw 7 mo_g6 (vp_in_nI (n := ((4 * cm) + 3)) (by omega) (by decide)) (w' := moW G mo (mI (mI (mR (mI U 9 (nI (cm + 1))) 6 (upd (upd (upd (upd cx (4 * cm) kx) ((4 * cm) + 1) (rn_253.2)) ((4 * cm) + 2) (rn_266.2)) ((4 * cm) + 3) (rn_279.2))) 5 (nI (rn_279.1.1))) 6 (bI rn_279.1.2)) ++ X) (by rw [show (nI ((4 * cm) + 3)).toNatClampNeg = ((4 * cm) + 3) from nI_clamp (by omega)]; exact mo_s6) dX12_readCommand_282 (fun H locs hw => ?_)
        refine lv_goto (tgt := 345) C.1 C.2.1 dX12_readCommand_283 (by decide) ?_
        have hz : rcM U n t0 false cm cx = rcN U n t0 cm cx kx := by rw [rcM, if_neg (by decide), ← ekx]
        have hv := (congrArg vbL hk101_98).trans vbL_98
        exact r_vret C hw rfl () (trivial) (by rw [hz]; unfold rcN; rw [hv]; simp only [rdP, Nat.add_assoc, Nat.reduceAdd, hq_241, hq_253, hq_266, hq_279] <;> rfl) (Nat.le_of_ble_eq_true rfl) (Nat.le_of_ble_eq_true rfl) dX12_readCommand_345
      by_cases hk101_99 : kx = 99
      · rw [hk101_99]
        refine lv_tableIn (tgt := 286) C.1 C.2.1 dX12_readCommand_101 (by decide) (by decide) (off := 185) (by decide) (by decide) ?_
        refine lv_aload_n C.1 C.2.1 dX12_readCommand_286 rfl (lv_at hl 0 rfl) ?_
        refine r_ldcS C hr_224 dX12_readCommand_287 ?_
        refine r_vv C hw (k12_skip hF (mo := mo) (U := (mR (mI U 9 (nI (cm + 1))) 6 (upd cx (4 * cm) kx))) (X := X) (n := n) hn1 hn (L := [99, 97, 110, 99, 101, 108]) (by decide) hs_224 (t0 := t0) ht false) ml_X12_205 yf_X12_skip 0 rfl rfl (As := [.ref a224]) rfl rfl ⟨Nat.le_of_ble_eq_true rfl, Nat.le_of_ble_eq_true rfl⟩ ⟨Nat.le_of_ble_eq_true rfl, Nat.le_of_ble_eq_true rfl⟩ hl.1 (Nat.le_of_ble_eq_true rfl) dX12_readCommand_289 (fun _ H locs hp_289 hw => ?_)
        rw [skR_b] at hw
        have htn_289 := skR_le (U := U) (n := n) (L := [99, 97, 110, 99, 101, 108]) (w := false) (show t0 ≤ n from ht)
        generalize hq_289 : skR U n [99, 97, 110, 99, 101, 108] t0 false = sk_289 at hw htn_289
        replace hw : WH G s (moW G mo (mI (mI (mR (mI U 9 (nI (cm + 1))) 6 (upd cx (4 * cm) kx)) 5 (nI (sk_289.1))) 6 (bI sk_289.2)) ++ X) H locs := hw
        refine lv_aload_n C.1 C.2.1 dX12_readCommand_292 rfl (lv_at hl 0 rfl) ?_
        refine r_get C hw 0 rfl rfl in_X12 15 (by decide) fl_X12_36 rfl (v := .ref (mo 7)) rfl dX12_readCommand_293 ?_
        refine lv_iload_n C.1 C.2.1 dX12_readCommand_296 rfl (lv_at hl 3 rfl) ?_
        refine lv_iconst (v := 1) C.1 C.2.1 dX12_readCommand_297 (by decide) ?_
        refine lv_iadd C.1 C.2.1 dX12_readCommand_298 ?_
        refine r_toe (nI_add (4 * cm) 1) ?_
        refine lv_aload_n C.1 C.2.1 dX12_readCommand_299 rfl (lv_at hl 0 rfl) ?_
        refine lv_iconst (v := 3) C.1 C.2.1 dX12_readCommand_300 (by decide) ?_
        refine r_vi C hw (k12_readNumber hF (mo := mo) (U := (mR (mI U 9 (nI (cm + 1))) 6 (upd cx (4 * cm) kx))) (X := X) (n := n) hn1 hn (mo1 := 3) (by decide) (t0 := (sk_289.1)) htn_289 sk_289.2) ml_X12_217 yf_X12_readNumber 0 rfl rfl (As := [.int 3]) rfl rfl ⟨Nat.le_of_ble_eq_true rfl, Nat.le_of_ble_eq_true rfl⟩ ⟨Nat.le_of_ble_eq_true rfl, Nat.le_of_ble_eq_true rfl⟩ hl.1 (Nat.le_of_ble_eq_true rfl) dX12_readCommand_301 (fun r_301 _ H locs hp_301 hw => ?_)
        rw [rnM_b] at hp_301 hw
        have htn_301 := rnM_le (U := U) (n := n) (mo := 3) (w := sk_289.2) (show (sk_289.1) ≤ n from htn_289)
        generalize hq_301 : rnM U n 3 (sk_289.1) sk_289.2 = rn_301 at hw hp_301 htn_301
        obtain rfl : r_301 = rn_301.2 := hp_301
        replace hw : WH G s (moW G mo (mI (mI (mR (mI U 9 (nI (cm + 1))) 6 (upd cx (4 * cm) kx)) 5 (nI (rn_301.1.1))) 6 (bI rn_301.1.2)) ++ X) H locs := hw
        refine r_iast C hw 7 mo_g6 (vp_in_nI (n := ((4 * cm) + 1)) (by omega) (by decide)) (w' := moW G mo (mI (mI (mR (mI U 9 (nI (cm + 1))) 6 (upd (upd cx (4 * cm) kx) ((4 * cm) + 1) (rn_301.2))) 5 (nI (rn_301.1.1))) 6 (bI rn_301.1.2)) ++ X) (by rw [show (nI ((4 * cm) + 1)).toNatClampNeg = ((4 * cm) + 1) from nI_clamp (by omega)]; exact mo_s6) dX12_readCommand_304 (fun H locs hw => ?_)
        refine lv_goto (tgt := 345) C.1 C.2.1 dX12_readCommand_305 (by decide) ?_
        have hz : rcM U n t0 false cm cx = rcN U n t0 cm cx kx := by rw [rcM, if_neg (by decide), ← ekx]
        have hv := (congrArg vbL hk101_99).trans vbL_99
        exact r_vret C hw rfl () (trivial) (by rw [hz]; unfold rcN; rw [hv]; simp only [rdP, Nat.add_assoc, Nat.reduceAdd, hq_289, hq_301] <;> rfl) (Nat.le_of_ble_eq_true rfl) (Nat.le_of_ble_eq_true rfl) dX12_readCommand_345
      by_cases hk101_108 : kx = 108
      · rw [hk101_108]
        refine lv_tableIn (tgt := 330) C.1 C.2.1 dX12_readCommand_101 (by decide) (by decide) (off := 229) (by decide) (by decide) ?_
        refine lv_aload_n C.1 C.2.1 dX12_readCommand_330 rfl (lv_at hl 0 rfl) ?_
        refine r_ldcS C hr_228 dX12_readCommand_331 ?_
        refine r_vv C hw (k12_skip hF (mo := mo) (U := (mR (mI U 9 (nI (cm + 1))) 6 (upd cx (4 * cm) kx))) (X := X) (n := n) hn1 hn (L := [99, 108, 111, 115, 101]) (by decide) hs_228 (t0 := t0) ht false) ml_X12_205 yf_X12_skip 0 rfl rfl (As := [.ref a228]) rfl rfl ⟨Nat.le_of_ble_eq_true rfl, Nat.le_of_ble_eq_true rfl⟩ ⟨Nat.le_of_ble_eq_true rfl, Nat.le_of_ble_eq_true rfl⟩ hl.1 (Nat.le_of_ble_eq_true rfl) dX12_readCommand_333 (fun _ H locs hp_333 hw => ?_)
        rw [skR_b] at hw
        have htn_333 := skR_le (U := U) (n := n) (L := [99, 108, 111, 115, 101]) (w := false) (show t0 ≤ n from ht)
        generalize hq_333 : skR U n [99, 108, 111, 115, 101] t0 false = sk_333 at hw htn_333
        replace hw : WH G s (moW G mo (mI (mI (mR (mI U 9 (nI (cm + 1))) 6 (upd cx (4 * cm) kx)) 5 (nI (sk_333.1))) 6 (bI sk_333.2)) ++ X) H locs := hw
        refine lv_goto (tgt := 345) C.1 C.2.1 dX12_readCommand_336 (by decide) ?_
        have hz : rcM U n t0 false cm cx = rcN U n t0 cm cx kx := by rw [rcM, if_neg (by decide), ← ekx]
        have hv := (congrArg vbL hk101_108).trans vbL_108
        exact r_vret C hw rfl () (trivial) (by rw [hz]; unfold rcN; rw [hv]; simp only [rdP, Nat.add_assoc, Nat.reduceAdd, hq_333] <;> rfl) (Nat.le_of_ble_eq_true rfl) (Nat.le_of_ble_eq_true rfl) dX12_readCommand_345
      by_cases hk101_112 : kx = 112
      · rw [hk101_112]
        refine lv_tableIn (tgt := 308) C.1 C.2.1 dX12_readCommand_101 (by decide) (by decide) (off := 207) (by decide) (by decide) ?_
        refine lv_aload_n C.1 C.2.1 dX12_readCommand_308 rfl (lv_at hl 0 rfl) ?_
        refine r_ldcS C hr_226 dX12_readCommand_309 ?_
        refine r_vv C hw (k12_skip hF (mo := mo) (U := (mR (mI U 9 (nI (cm + 1))) 6 (upd cx (4 * cm) kx))) (X := X) (n := n) hn1 hn (L := [112, 97, 115, 115]) (by decide) hs_226 (t0 := t0) ht false) ml_X12_205 yf_X12_skip 0 rfl rfl (As := [.ref a226]) rfl rfl ⟨Nat.le_of_ble_eq_true rfl, Nat.le_of_ble_eq_true rfl⟩ ⟨Nat.le_of_ble_eq_true rfl, Nat.le_of_ble_eq_true rfl⟩ hl.1 (Nat.le_of_ble_eq_true rfl) dX12_readCommand_311 (fun _ H locs hp_311 hw => ?_)
        rw [skR_b] at hw
        have htn_311 := skR_le (U := U) (n := n) (L := [112, 97, 115, 115]) (w := false) (show t0 ≤ n from ht)
        generalize hq_311 : skR U n [112, 97, 115, 115] t0 false = sk_311 at hw htn_311
        replace hw : WH G s (moW G mo (mI (mI (mR (mI U 9 (nI (cm + 1))) 6 (upd cx (4 * cm) kx)) 5 (nI (sk_311.1))) 6 (bI sk_311.2)) ++ X) H locs := hw
        refine lv_aload_n C.1 C.2.1 dX12_readCommand_314 rfl (lv_at hl 0 rfl) ?_
        refine r_get C hw 0 rfl rfl in_X12 15 (by decide) fl_X12_36 rfl (v := .ref (mo 7)) rfl dX12_readCommand_315 ?_
        refine lv_iload_n C.1 C.2.1 dX12_readCommand_318 rfl (lv_at hl 3 rfl) ?_
        refine lv_iconst (v := 1) C.1 C.2.1 dX12_readCommand_319 (by decide) ?_
        refine lv_iadd C.1 C.2.1 dX12_readCommand_320 ?_
        refine r_toe (nI_add (4 * cm) 1) ?_
        refine lv_aload_n C.1 C.2.1 dX12_readCommand_321 rfl (lv_at hl 0 rfl) ?_
        refine lv_iconst (v := 3) C.1 C.2.1 dX12_readCommand_322 (by decide) ?_
        refine r_vi C hw (k12_readNumber hF (mo := mo) (U := (mR (mI U 9 (nI (cm + 1))) 6 (upd cx (4 * cm) kx))) (X := X) (n := n) hn1 hn (mo1 := 3) (by decide) (t0 := (sk_311.1)) htn_311 sk_311.2) ml_X12_217 yf_X12_readNumber 0 rfl rfl (As := [.int 3]) rfl rfl ⟨Nat.le_of_ble_eq_true rfl, Nat.le_of_ble_eq_true rfl⟩ ⟨Nat.le_of_ble_eq_true rfl, Nat.le_of_ble_eq_true rfl⟩ hl.1 (Nat.le_of_ble_eq_true rfl) dX12_readCommand_323 (fun r_323 _ H locs hp_323 hw => ?_)
        rw [rnM_b] at hp_323 hw
        have htn_323 := rnM_le (U := U) (n := n) (mo := 3) (w := sk_311.2) (show (sk_311.1) ≤ n from htn_311)
        generalize hq_323 : rnM U n 3 (sk_311.1) sk_311.2 = rn_323 at hw hp_323 htn_323
        obtain rfl : r_323 = rn_323.2 := hp_323
        replace hw : WH G s (moW G mo (mI (mI (mR (mI U 9 (nI (cm + 1))) 6 (upd cx (4 * cm) kx)) 5 (nI (rn_323.1.1))) 6 (bI rn_323.1.2)) ++ X) H locs := hw
        refine r_iast C hw 7 mo_g6 (vp_in_nI (n := ((4 * cm) + 1)) (by omega) (by decide)) (w' := moW G mo (mI (mI (mR (mI U 9 (nI (cm + 1))) 6 (upd (upd cx (4 * cm) kx) ((4 * cm) + 1) (rn_323.2))) 5 (nI (rn_323.1.1))) 6 (bI rn_323.1.2)) ++ X) (by rw [show (nI ((4 * cm) + 1)).toNatClampNeg = ((4 * cm) + 1) from nI_clamp (by omega)]; exact mo_s6) dX12_readCommand_326 (fun H locs hw => ?_)
        refine lv_goto (tgt := 345) C.1 C.2.1 dX12_readCommand_327 (by decide) ?_
        have hz : rcM U n t0 false cm cx = rcN U n t0 cm cx kx := by rw [rcM, if_neg (by decide), ← ekx]
        have hv := (congrArg vbL hk101_112).trans vbL_112
        exact r_vret C hw rfl () (trivial) (by rw [hz]; unfold rcN; rw [hv]; simp only [rdP, Nat.add_assoc, Nat.reduceAdd, hq_311, hq_323] <;> rfl) (Nat.le_of_ble_eq_true rfl) (Nat.le_of_ble_eq_true rfl) dX12_readCommand_345
      by_cases hk101_115 : kx = 115
      · rw [hk101_115]
        refine lv_tableIn (tgt := 227) C.1 C.2.1 dX12_readCommand_101 (by decide) (by decide) (off := 126) (by decide) (by decide) ?_
        refine lv_aload_n C.1 C.2.1 dX12_readCommand_227 rfl (lv_at hl 0 rfl) ?_
        refine lv_iload_n C.1 C.2.1 dX12_readCommand_228 rfl (lv_at hl 1 rfl) ?_
        refine lv_bipush (v := 98) C.1 C.2.1 dX12_readCommand_229 (by decide) ?_
        refine lv_icmp_ne (tgt := 239) C.1 C.2.1 dX12_readCommand_231 (by decide) (fun c_231 => ?_) (fun c_231 => absurd c_231 (rcK_s (ekx.symm.trans hk101_115)))
        refine r_ldcS C hr_222 dX12_readCommand_239 ?_
        refine r_vv C hw (k12_skip hF (mo := mo) (U := (mR (mI U 9 (nI (cm + 1))) 6 (upd cx (4 * cm) kx))) (X := X) (n := n) hn1 hn (L := [115, 101, 108, 108]) (by decide) hs_222 (t0 := t0) ht false) ml_X12_205 yf_X12_skip 0 rfl rfl (As := [.ref a222]) rfl rfl ⟨Nat.le_of_ble_eq_true rfl, Nat.le_of_ble_eq_true rfl⟩ ⟨Nat.le_of_ble_eq_true rfl, Nat.le_of_ble_eq_true rfl⟩ hl.1 (Nat.le_of_ble_eq_true rfl) dX12_readCommand_241 (fun _ H locs hp_241 hw => ?_)
        rw [skR_b] at hw
        have htn_241 := skR_le (U := U) (n := n) (L := [115, 101, 108, 108]) (w := false) (show t0 ≤ n from ht)
        generalize hq_241 : skR U n [115, 101, 108, 108] t0 false = sk_241 at hw htn_241
        replace hw : WH G s (moW G mo (mI (mI (mR (mI U 9 (nI (cm + 1))) 6 (upd cx (4 * cm) kx)) 5 (nI (sk_241.1))) 6 (bI sk_241.2)) ++ X) H locs := hw
        refine lv_aload_n C.1 C.2.1 dX12_readCommand_244 rfl (lv_at hl 0 rfl) ?_
        refine r_get C hw 0 rfl rfl in_X12 15 (by decide) fl_X12_36 rfl (v := .ref (mo 7)) rfl dX12_readCommand_245 ?_
        refine lv_iload_n C.1 C.2.1 dX12_readCommand_248 rfl (lv_at hl 3 rfl) ?_
        refine lv_iconst (v := 1) C.1 C.2.1 dX12_readCommand_249 (by decide) ?_
        refine lv_iadd C.1 C.2.1 dX12_readCommand_250 ?_
        refine r_toe (nI_add (4 * cm) 1) ?_
        refine lv_aload_n C.1 C.2.1 dX12_readCommand_251 rfl (lv_at hl 0 rfl) ?_
        refine lv_iconst (v := 1) C.1 C.2.1 dX12_readCommand_252 (by decide) ?_
        refine r_vi C hw (k12_readNumber hF (mo := mo) (U := (mR (mI U 9 (nI (cm + 1))) 6 (upd cx (4 * cm) kx))) (X := X) (n := n) hn1 hn (mo1 := 1) (by decide) (t0 := (sk_241.1)) htn_241 sk_241.2) ml_X12_217 yf_X12_readNumber 0 rfl rfl (As := [.int 1]) rfl rfl ⟨Nat.le_of_ble_eq_true rfl, Nat.le_of_ble_eq_true rfl⟩ ⟨Nat.le_of_ble_eq_true rfl, Nat.le_of_ble_eq_true rfl⟩ hl.1 (Nat.le_of_ble_eq_true rfl) dX12_readCommand_253 (fun r_253 _ H locs hp_253 hw => ?_)
        rw [rnM_b] at hp_253 hw
        have htn_253 := rnM_le (U := U) (n := n) (mo := 1) (w := sk_241.2) (show (sk_241.1) ≤ n from htn_241)
        generalize hq_253 : rnM U n 1 (sk_241.1) sk_241.2 = rn_253 at hw hp_253 htn_253
        obtain rfl : r_253 = rn_253.2 := hp_253
        replace hw : WH G s (moW G mo (mI (mI (mR (mI U 9 (nI (cm + 1))) 6 (upd cx (4 * cm) kx)) 5 (nI (rn_253.1.1))) 6 (bI rn_253.1.2)) ++ X) H locs := hw
        refine r_iast C hw 7 mo_g6 (vp_in_nI (n := ((4 * cm) + 1)) (by omega) (by decide)) (w' := moW G mo (mI (mI (mR (mI U 9 (nI (cm + 1))) 6 (upd (upd cx (4 * cm) kx) ((4 * cm) + 1) (rn_253.2))) 5 (nI (rn_253.1.1))) 6 (bI rn_253.1.2)) ++ X) (by rw [show (nI ((4 * cm) + 1)).toNatClampNeg = ((4 * cm) + 1) from nI_clamp (by omega)]; exact mo_s6) dX12_readCommand_256 (fun H locs hw => ?_)
        refine lv_aload_n C.1 C.2.1 dX12_readCommand_257 rfl (lv_at hl 0 rfl) ?_
        refine r_get C hw 0 rfl rfl in_X12 15 (by decide) fl_X12_36 rfl (v := .ref (mo 7)) rfl dX12_readCommand_258 ?_
        refine lv_iload_n C.1 C.2.1 dX12_readCommand_261 rfl (lv_at hl 3 rfl) ?_
        refine lv_iconst (v := 2) C.1 C.2.1 dX12_readCommand_262 (by decide) ?_
        refine lv_iadd C.1 C.2.1 dX12_readCommand_263 ?_
        refine r_toe (nI_add (4 * cm) 2) ?_
        refine lv_aload_n C.1 C.2.1 dX12_readCommand_264 rfl (lv_at hl 0 rfl) ?_
        refine lv_iconst (v := 3) C.1 C.2.1 dX12_readCommand_265 (by decide) ?_
        refine r_vi C hw (k12_readNumber hF (mo := mo) (U := (mR (mI U 9 (nI (cm + 1))) 6 (upd (upd cx (4 * cm) kx) ((4 * cm) + 1) (rn_253.2)))) (X := X) (n := n) hn1 hn (mo1 := 3) (by decide) (t0 := (rn_253.1.1)) htn_253 rn_253.1.2) ml_X12_217 yf_X12_readNumber 0 rfl rfl (As := [.int 3]) rfl rfl ⟨Nat.le_of_ble_eq_true rfl, Nat.le_of_ble_eq_true rfl⟩ ⟨Nat.le_of_ble_eq_true rfl, Nat.le_of_ble_eq_true rfl⟩ hl.1 (Nat.le_of_ble_eq_true rfl) dX12_readCommand_266 (fun r_266 _ H locs hp_266 hw => ?_)
        rw [rnM_b] at hp_266 hw
        have htn_266 := rnM_le (U := U) (n := n) (mo := 3) (w := rn_253.1.2) (show (rn_253.1.1) ≤ n from htn_253)
        generalize hq_266 : rnM U n 3 (rn_253.1.1) rn_253.1.2 = rn_266 at hw hp_266 htn_266
        obtain rfl : r_266 = rn_266.2 := hp_266
        replace hw : WH G s (moW G mo (mI (mI (mR (mI U 9 (nI (cm + 1))) 6 (upd (upd cx (4 * cm) kx) ((4 * cm) + 1) (rn_253.2))) 5 (nI (rn_266.1.1))) 6 (bI rn_266.1.2)) ++ X) H locs := hw
        refine r_iast C hw 7 mo_g6 (vp_in_nI (n := ((4 * cm) + 2)) (by omega) (by decide)) (w' := moW G mo (mI (mI (mR (mI U 9 (nI (cm + 1))) 6 (upd (upd (upd cx (4 * cm) kx) ((4 * cm) + 1) (rn_253.2)) ((4 * cm) + 2) (rn_266.2))) 5 (nI (rn_266.1.1))) 6 (bI rn_266.1.2)) ++ X) (by rw [show (nI ((4 * cm) + 2)).toNatClampNeg = ((4 * cm) + 2) from nI_clamp (by omega)]; exact mo_s6) dX12_readCommand_269 (fun H locs hw => ?_)
        refine lv_aload_n C.1 C.2.1 dX12_readCommand_270 rfl (lv_at hl 0 rfl) ?_
        refine r_get C hw 0 rfl rfl in_X12 15 (by decide) fl_X12_36 rfl (v := .ref (mo 7)) rfl dX12_readCommand_271 ?_
        refine lv_iload_n C.1 C.2.1 dX12_readCommand_274 rfl (lv_at hl 3 rfl) ?_
        refine lv_iconst (v := 3) C.1 C.2.1 dX12_readCommand_275 (by decide) ?_
        refine lv_iadd C.1 C.2.1 dX12_readCommand_276 ?_
        refine r_toe (nI_add (4 * cm) 3) ?_
        refine lv_aload_n C.1 C.2.1 dX12_readCommand_277 rfl (lv_at hl 0 rfl) ?_
        refine lv_iconst (v := 3) C.1 C.2.1 dX12_readCommand_278 (by decide) ?_
        refine r_vi C hw (k12_readNumber hF (mo := mo) (U := (mR (mI U 9 (nI (cm + 1))) 6 (upd (upd (upd cx (4 * cm) kx) ((4 * cm) + 1) (rn_253.2)) ((4 * cm) + 2) (rn_266.2)))) (X := X) (n := n) hn1 hn (mo1 := 3) (by decide) (t0 := (rn_266.1.1)) htn_266 rn_266.1.2) ml_X12_217 yf_X12_readNumber 0 rfl rfl (As := [.int 3]) rfl rfl ⟨Nat.le_of_ble_eq_true rfl, Nat.le_of_ble_eq_true rfl⟩ ⟨Nat.le_of_ble_eq_true rfl, Nat.le_of_ble_eq_true rfl⟩ hl.1 (Nat.le_of_ble_eq_true rfl) dX12_readCommand_279 (fun r_279 _ H locs hp_279 hw => ?_)
        rw [rnM_b] at hp_279 hw
        have htn_279 := rnM_le (U := U) (n := n) (mo := 3) (w := rn_266.1.2) (show (rn_266.1.1) ≤ n from htn_266)
        generalize hq_279 : rnM U n 3 (rn_266.1.1) rn_266.1.2 = rn_279 at hw hp_279 htn_279
        obtain rfl : r_279 = rn_279.2 := hp_279
        replace hw : WH G s (moW G mo (mI (mI (mR (mI U 9 (nI (cm + 1))) 6 (upd (upd (upd cx (4 * cm) kx) ((4 * cm) + 1) (rn_253.2)) ((4 * cm) + 2) (rn_266.2))) 5 (nI (rn_279.1.1))) 6 (bI rn_279.1.2)) ++ X) H locs := hw
        refine r_iast C hw 7 mo_g6 (vp_in_nI (n := ((4 * cm) + 3)) (by omega) (by decide)) (w' := moW G mo (mI (mI (mR (mI U 9 (nI (cm + 1))) 6 (upd (upd (upd (upd cx (4 * cm) kx) ((4 * cm) + 1) (rn_253.2)) ((4 * cm) + 2) (rn_266.2)) ((4 * cm) + 3) (rn_279.2))) 5 (nI (rn_279.1.1))) 6 (bI rn_279.1.2)) ++ X) (by rw [show (nI ((4 * cm) + 3)).toNatClampNeg = ((4 * cm) + 3) from nI_clamp (by omega)]; exact mo_s6) dX12_readCommand_282 (fun H locs hw => ?_)
        refine lv_goto (tgt := 345) C.1 C.2.1 dX12_readCommand_283 (by decide) ?_
        have hz : rcM U n t0 false cm cx = rcN U n t0 cm cx kx := by rw [rcM, if_neg (by decide), ← ekx]
        have hv := (congrArg vbL hk101_115).trans vbL_115
        exact r_vret C hw rfl () (trivial) (by rw [hz]; unfold rcN; rw [hv]; simp only [rdP, Nat.add_assoc, Nat.reduceAdd, hq_241, hq_253, hq_266, hq_279] <;> rfl) (Nat.le_of_ble_eq_true rfl) (Nat.le_of_ble_eq_true rfl) dX12_readCommand_345
      by_cases hk101_116 : kx = 116
      · rw [hk101_116]
        refine lv_tableIn (tgt := 192) C.1 C.2.1 dX12_readCommand_101 (by decide) (by decide) (off := 91) (by decide) (by decide) ?_
        refine lv_aload_n C.1 C.2.1 dX12_readCommand_192 rfl (lv_at hl 0 rfl) ?_
        refine r_ldcS C hr_216 dX12_readCommand_193 ?_
        refine r_vv C hw (k12_skip hF (mo := mo) (U := (mR (mI U 9 (nI (cm + 1))) 6 (upd cx (4 * cm) kx))) (X := X) (n := n) hn1 hn (L := [115, 116, 97, 108, 108]) (by decide) hs_216 (t0 := t0) ht false) ml_X12_205 yf_X12_skip 0 rfl rfl (As := [.ref a216]) rfl rfl ⟨Nat.le_of_ble_eq_true rfl, Nat.le_of_ble_eq_true rfl⟩ ⟨Nat.le_of_ble_eq_true rfl, Nat.le_of_ble_eq_true rfl⟩ hl.1 (Nat.le_of_ble_eq_true rfl) dX12_readCommand_195 (fun _ H locs hp_195 hw => ?_)
        rw [skR_b] at hw
        have htn_195 := skR_le (U := U) (n := n) (L := [115, 116, 97, 108, 108]) (w := false) (show t0 ≤ n from ht)
        generalize hq_195 : skR U n [115, 116, 97, 108, 108] t0 false = sk_195 at hw htn_195
        replace hw : WH G s (moW G mo (mI (mI (mR (mI U 9 (nI (cm + 1))) 6 (upd cx (4 * cm) kx)) 5 (nI (sk_195.1))) 6 (bI sk_195.2)) ++ X) H locs := hw
        refine lv_aload_n C.1 C.2.1 dX12_readCommand_198 rfl (lv_at hl 0 rfl) ?_
        refine r_get C hw 0 rfl rfl in_X12 15 (by decide) fl_X12_36 rfl (v := .ref (mo 7)) rfl dX12_readCommand_199 ?_
        refine lv_iload_n C.1 C.2.1 dX12_readCommand_202 rfl (lv_at hl 3 rfl) ?_
        refine lv_iconst (v := 1) C.1 C.2.1 dX12_readCommand_203 (by decide) ?_
        refine lv_iadd C.1 C.2.1 dX12_readCommand_204 ?_
        refine r_toe (nI_add (4 * cm) 1) ?_
        refine lv_aload_n C.1 C.2.1 dX12_readCommand_205 rfl (lv_at hl 0 rfl) ?_
        refine lv_iconst (v := 3) C.1 C.2.1 dX12_readCommand_206 (by decide) ?_
        refine r_vi C hw (k12_readNumber hF (mo := mo) (U := (mR (mI U 9 (nI (cm + 1))) 6 (upd cx (4 * cm) kx))) (X := X) (n := n) hn1 hn (mo1 := 3) (by decide) (t0 := (sk_195.1)) htn_195 sk_195.2) ml_X12_217 yf_X12_readNumber 0 rfl rfl (As := [.int 3]) rfl rfl ⟨Nat.le_of_ble_eq_true rfl, Nat.le_of_ble_eq_true rfl⟩ ⟨Nat.le_of_ble_eq_true rfl, Nat.le_of_ble_eq_true rfl⟩ hl.1 (Nat.le_of_ble_eq_true rfl) dX12_readCommand_207 (fun r_207 _ H locs hp_207 hw => ?_)
        rw [rnM_b] at hp_207 hw
        have htn_207 := rnM_le (U := U) (n := n) (mo := 3) (w := sk_195.2) (show (sk_195.1) ≤ n from htn_195)
        generalize hq_207 : rnM U n 3 (sk_195.1) sk_195.2 = rn_207 at hw hp_207 htn_207
        obtain rfl : r_207 = rn_207.2 := hp_207
        replace hw : WH G s (moW G mo (mI (mI (mR (mI U 9 (nI (cm + 1))) 6 (upd cx (4 * cm) kx)) 5 (nI (rn_207.1.1))) 6 (bI rn_207.1.2)) ++ X) H locs := hw
        refine r_iast C hw 7 mo_g6 (vp_in_nI (n := ((4 * cm) + 1)) (by omega) (by decide)) (w' := moW G mo (mI (mI (mR (mI U 9 (nI (cm + 1))) 6 (upd (upd cx (4 * cm) kx) ((4 * cm) + 1) (rn_207.2))) 5 (nI (rn_207.1.1))) 6 (bI rn_207.1.2)) ++ X) (by rw [show (nI ((4 * cm) + 1)).toNatClampNeg = ((4 * cm) + 1) from nI_clamp (by omega)]; exact mo_s6) dX12_readCommand_210 (fun H locs hw => ?_)
        refine lv_aload_n C.1 C.2.1 dX12_readCommand_211 rfl (lv_at hl 0 rfl) ?_
        refine r_get C hw 0 rfl rfl in_X12 15 (by decide) fl_X12_36 rfl (v := .ref (mo 7)) rfl dX12_readCommand_212 ?_
        refine lv_iload_n C.1 C.2.1 dX12_readCommand_215 rfl (lv_at hl 3 rfl) ?_
        refine lv_iconst (v := 2) C.1 C.2.1 dX12_readCommand_216 (by decide) ?_
        refine lv_iadd C.1 C.2.1 dX12_readCommand_217 ?_
        refine r_toe (nI_add (4 * cm) 2) ?_
        refine lv_aload_n C.1 C.2.1 dX12_readCommand_218 rfl (lv_at hl 0 rfl) ?_
        refine lv_iconst (v := 3) C.1 C.2.1 dX12_readCommand_219 (by decide) ?_
        refine r_vi C hw (k12_readNumber hF (mo := mo) (U := (mR (mI U 9 (nI (cm + 1))) 6 (upd (upd cx (4 * cm) kx) ((4 * cm) + 1) (rn_207.2)))) (X := X) (n := n) hn1 hn (mo1 := 3) (by decide) (t0 := (rn_207.1.1)) htn_207 rn_207.1.2) ml_X12_217 yf_X12_readNumber 0 rfl rfl (As := [.int 3]) rfl rfl ⟨Nat.le_of_ble_eq_true rfl, Nat.le_of_ble_eq_true rfl⟩ ⟨Nat.le_of_ble_eq_true rfl, Nat.le_of_ble_eq_true rfl⟩ hl.1 (Nat.le_of_ble_eq_true rfl) dX12_readCommand_220 (fun r_220 _ H locs hp_220 hw => ?_)
        rw [rnM_b] at hp_220 hw
        have htn_220 := rnM_le (U := U) (n := n) (mo := 3) (w := rn_207.1.2) (show (rn_207.1.1) ≤ n from htn_207)
        generalize hq_220 : rnM U n 3 (rn_207.1.1) rn_207.1.2 = rn_220 at hw hp_220 htn_220
        obtain rfl : r_220 = rn_220.2 := hp_220
        replace hw : WH G s (moW G mo (mI (mI (mR (mI U 9 (nI (cm + 1))) 6 (upd (upd cx (4 * cm) kx) ((4 * cm) + 1) (rn_207.2))) 5 (nI (rn_220.1.1))) 6 (bI rn_220.1.2)) ++ X) H locs := hw
        refine r_iast C hw 7 mo_g6 (vp_in_nI (n := ((4 * cm) + 2)) (by omega) (by decide)) (w' := moW G mo (mI (mI (mR (mI U 9 (nI (cm + 1))) 6 (upd (upd (upd cx (4 * cm) kx) ((4 * cm) + 1) (rn_207.2)) ((4 * cm) + 2) (rn_220.2))) 5 (nI (rn_220.1.1))) 6 (bI rn_220.1.2)) ++ X) (by rw [show (nI ((4 * cm) + 2)).toNatClampNeg = ((4 * cm) + 2) from nI_clamp (by omega)]; exact mo_s6) dX12_readCommand_223 (fun H locs hw => ?_)
        refine lv_goto (tgt := 345) C.1 C.2.1 dX12_readCommand_224 (by decide) ?_
        have hz : rcM U n t0 false cm cx = rcN U n t0 cm cx kx := by rw [rcM, if_neg (by decide), ← ekx]
        have hv := (congrArg vbL hk101_116).trans vbL_116
        exact r_vret C hw rfl () (trivial) (by rw [hz]; unfold rcN; rw [hv]; simp only [rdP, Nat.add_assoc, Nat.reduceAdd, hq_195, hq_207, hq_220] <;> rfl) (Nat.le_of_ble_eq_true rfl) (Nat.le_of_ble_eq_true rfl) dX12_readCommand_345
      rcases tb_rc kx hk101_98 hk101_99 hk101_108 hk101_112 hk101_115 hk101_116 with hr | ⟨hr1, hr2, hr3⟩
      · refine lv_tableOut (tgt := 339) C.1 C.2.1 dX12_readCommand_101 hr (by decide) ?_
        refine lv_aload_n C.1 C.2.1 dX12_readCommand_339 rfl (lv_at hl 0 rfl) ?_
        refine r_ldcS C hr_230 dX12_readCommand_340 ?_
        refine r_vv C hw (k12_skip hF (mo := mo) (U := (mR (mI U 9 (nI (cm + 1))) 6 (upd cx (4 * cm) kx))) (X := X) (n := n) hn1 hn (L := [111, 112, 101, 110]) (by decide) hs_230 (t0 := t0) ht false) ml_X12_205 yf_X12_skip 0 rfl rfl (As := [.ref a230]) rfl rfl ⟨Nat.le_of_ble_eq_true rfl, Nat.le_of_ble_eq_true rfl⟩ ⟨Nat.le_of_ble_eq_true rfl, Nat.le_of_ble_eq_true rfl⟩ hl.1 (Nat.le_of_ble_eq_true rfl) dX12_readCommand_342 (fun _ H locs hp_342 hw => ?_)
        rw [skR_b] at hw
        have htn_342 := skR_le (U := U) (n := n) (L := [111, 112, 101, 110]) (w := false) (show t0 ≤ n from ht)
        generalize hq_342 : skR U n [111, 112, 101, 110] t0 false = sk_342 at hw htn_342
        replace hw : WH G s (moW G mo (mI (mI (mR (mI U 9 (nI (cm + 1))) 6 (upd cx (4 * cm) kx)) 5 (nI (sk_342.1))) 6 (bI sk_342.2)) ++ X) H locs := hw
        have hz : rcM U n t0 false cm cx = rcN U n t0 cm cx kx := by rw [rcM, if_neg (by decide), ← ekx]
        have hv := vbL_d hk101_98 hk101_99 hk101_108 hk101_112 hk101_115 hk101_116
        exact r_vret C hw rfl () (trivial) (by rw [hz]; unfold rcN; rw [hv]; simp only [rdP, Nat.add_assoc, Nat.reduceAdd, hq_342] <;> rfl) (Nat.le_of_ble_eq_true rfl) (Nat.le_of_ble_eq_true rfl) dX12_readCommand_345
      · refine lv_tableIn (tgt := 339) C.1 C.2.1 dX12_readCommand_101 hr1 hr2 (off := 238) hr3 (by decide) ?_
        refine lv_aload_n C.1 C.2.1 dX12_readCommand_339 rfl (lv_at hl 0 rfl) ?_
        refine r_ldcS C hr_230 dX12_readCommand_340 ?_
        refine r_vv C hw (k12_skip hF (mo := mo) (U := (mR (mI U 9 (nI (cm + 1))) 6 (upd cx (4 * cm) kx))) (X := X) (n := n) hn1 hn (L := [111, 112, 101, 110]) (by decide) hs_230 (t0 := t0) ht false) ml_X12_205 yf_X12_skip 0 rfl rfl (As := [.ref a230]) rfl rfl ⟨Nat.le_of_ble_eq_true rfl, Nat.le_of_ble_eq_true rfl⟩ ⟨Nat.le_of_ble_eq_true rfl, Nat.le_of_ble_eq_true rfl⟩ hl.1 (Nat.le_of_ble_eq_true rfl) dX12_readCommand_342 (fun _ H locs hp_342 hw => ?_)
        rw [skR_b] at hw
        have htn_342 := skR_le (U := U) (n := n) (L := [111, 112, 101, 110]) (w := false) (show t0 ≤ n from ht)
        generalize hq_342 : skR U n [111, 112, 101, 110] t0 false = sk_342 at hw htn_342
        replace hw : WH G s (moW G mo (mI (mI (mR (mI U 9 (nI (cm + 1))) 6 (upd cx (4 * cm) kx)) 5 (nI (sk_342.1))) 6 (bI sk_342.2)) ++ X) H locs := hw
        have hz : rcM U n t0 false cm cx = rcN U n t0 cm cx kx := by rw [rcM, if_neg (by decide), ← ekx]
        have hv := vbL_d hk101_98 hk101_99 hk101_108 hk101_112 hk101_115 hk101_116
        exact r_vret C hw rfl () (trivial) (by rw [hz]; unfold rcN; rw [hv]; simp only [rdP, Nat.add_assoc, Nat.reduceAdd, hq_342] <;> rfl) (Nat.le_of_ble_eq_true rfl) (Nat.le_of_ble_eq_true rfl) dX12_readCommand_345
  · obtain rfl : w0 = true := bI_ne0.mp c_4
    replace hw : WH G s (moW G mo (mI (mI (mR (mI U 9 (nI cm)) 6 cx) 5 (nI t0)) 6 (bI true)) ++ X) H locs := hw
    exact r_vret C hw rfl () (trivial) (by rw [rcM, if_pos rfl]) (Nat.le_of_ble_eq_true rfl) (Nat.le_of_ble_eq_true rfl) dX12_readCommand_7

