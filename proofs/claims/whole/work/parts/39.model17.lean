/-! The model's parser: numbers -/
/-- ways that join -/
theorem w_join {σ : Type} {p : Program} {l : Launch} {e : Env} {R : Room} {s : State} {m : MethodId} {args : Array Value} {below : List Frame} {meth : Method} {c : Code} {Q : State → Prop} {pc0 pc1 : Nat} {H0 : Heap} {locs0 : List Loc} {ls0 : Array Slot} {st0 : List Value} {c0 s0 : Nat} (G : Gx) (I : σ → Prop) (Wf : σ → va_W) (cf sf : σ → Nat) (Lf : σ → List (Nat × Value)) (Sf : σ → List Value) (nL : Nat)
    (ways : (∀ x : σ, I x → ∀ (H : Heap) (locs : List Loc), WH G s (Wf x) H locs → ∀ ls : Array Slot, lv_has ls nL (Lf x) → W p l e R s m args below meth c H locs (cf x) (sf x) Q (F0 m pc1 ls (Sf x))) → W p l e R s m args below meth c H0 locs0 c0 s0 Q (F0 m pc0 ls0 st0))
    (cont : ∀ x : σ, I x → ∀ (H : Heap) (locs : List Loc), WH G s (Wf x) H locs → ∀ ls : Array Slot, lv_has ls nL (Lf x) → W p l e R s m args below meth c H locs (cf x) (sf x) Q (F0 m pc1 ls (Sf x))) : W p l e R s m args below meth c H0 locs0 c0 s0 Q (F0 m pc0 ls0 st0) := ways cont
theorem skR_le {U : MV_} {n : Nat} : ∀ {L : List Int32} {t : Nat} {w : Bool}, t ≤ n → (skR U n L t w).1 ≤ n
  | [], _, _, h => h
  | c :: L, t, w, h => by
    rw [skR]
    split
    · exact h
    · split
      · exact skR_le (be_lt (by assumption))
      · exact h
/-- the digits of a number: how far, and the number -/
def nmR (U : MV_) (n : Nat) (w : Bool) : Nat → Nat → Int32 → Nat × Int32
  | 0, t, x => (t, x)
  | k + 1, t, x => if idB U n t w = true then nmR U n w k (t + 1) (10 * x + U.2 5 t - 48) else (t, x)
theorem idB_lt {U : MV_} {n t : Nat} {w : Bool} (h : idB U n t w = true) : t < n := by
  unfold idB beC at h
  by_cases hz : t + 0 < n
  · omega
  · rw [if_neg hz] at h
    have h2 : inR (-1) 48 57 = false := by decide
    rw [h2] at h
    simp at h
theorem nmR_le {U : MV_} {n : Nat} {w : Bool} : ∀ {k t : Nat} {x : Int32}, t ≤ n → (nmR U n w k t x).1 ≤ n
  | 0, _, _, h => h
  | k + 1, t, x, h => by
    rw [nmR]
    split
    · exact nmR_le (idB_lt (by assumption))
    · exact h
/-- a blank and a number of some digits -/
def rnM (U : MV_) (n mo t : Nat) (w : Bool) : (Nat × Bool) × Int32 :=
  let a := skR U n [32] t w
  let v := a.2 || !idB U n a.1 a.2
  (((nmR U n v mo a.1 0).1, v), (nmR U n v mo a.1 0).2)
theorem rnM_le {U : MV_} {n mo t : Nat} {w : Bool} (h : t ≤ n) : (rnM U n mo t w).1.1 ≤ n := nmR_le (skR_le h)

set_option maxHeartbeats 4000000 in
set_option maxRecDepth 100000 in
theorem k12_readNumber {l : Launch} {G : Gx} (hF : SF l G) {mo : Nat → Nat} {U : MV_} {X : va_W} {n : Nat} (hn1 : U.1 4 = nI n) (hn : n ≤ 60) {mo1 : Nat} (hm : mo1 ≤ 3) {t0 : Nat} (ht : t0 ≤ n) (w0 : Bool) : MI l G yX12_readNumber cX12_readNumber 4 .int 6 0 0 [.ref (mo 0), .int (nI mo1)] (moW G mo (mI (mI U 5 (nI t0)) 6 (bI w0)) ++ X) (fun r _ => r = (rnM U n mo1 t0 w0).2) (fun _ : Unit => moW G mo (mI (mI U 5 (nI (rnM U n mo1 t0 w0).1.1)) 6 (bI (rnM U n mo1 t0 w0).1.2)) ++ X) := by
  refine mt_of hF (by decide) (Nat.le_of_ble_eq_true rfl) ?_
  intro p e s m below meth c C hin ls hl H locs hw
  have hl : lv_has ls 4 [(0, .ref (mo 0)), (1, .int (nI mo1))] := hl
  obtain ⟨a203, hr_203, hs_203⟩ := lit_203 hF
  refine lv_aload_n C.1 C.2.1 dX12_readNumber_0 rfl (lv_at hl 0 rfl) ?_
  refine r_ldcS C hr_203 dX12_readNumber_1 ?_
  refine r_vv C hw (k12_skip hF (mo := mo) (U := U) (X := X) (n := n) hn1 hn (L := [32]) (by decide) hs_203 (t0 := t0) ht w0) ml_X12_205 yf_X12_skip 0 rfl rfl (As := [.ref a203]) rfl rfl ⟨Nat.le_of_ble_eq_true rfl, Nat.le_of_ble_eq_true rfl⟩ ⟨Nat.le_of_ble_eq_true rfl, Nat.le_of_ble_eq_true rfl⟩ hl.1 (Nat.le_of_ble_eq_true rfl) dX12_readNumber_3 (fun _ H locs hp_3 hw => ?_)
  replace hw : WH G s (moW G mo (mI (mI U 5 (nI ((skR U n [32] t0 w0).1))) 6 (bI (skR U n [32] t0 w0).2)) ++ X) H locs := hw
  have htn_3 := skR_le (U := U) (n := n) (L := [32]) (w := w0) (show t0 ≤ n from ht)
  refine lv_aload_n C.1 C.2.1 dX12_readNumber_6 rfl (lv_at hl 0 rfl) ?_
  refine lv_aload_n C.1 C.2.1 dX12_readNumber_7 rfl (lv_at hl 0 rfl) ?_
  refine r_get C hw 0 rfl rfl in_X12 12 (by decide) fl_X12_192 rfl (v := .int (bI (skR U n [32] t0 w0).2)) rfl dX12_readNumber_8 ?_
  refine w_join (σ := Bool) G (pc1 := 29) (fun w => w = ((skR U n [32] t0 w0).2 || !idB U n (skR U n [32] t0 w0).1 (skR U n [32] t0 w0).2)) (fun w => moW G mo (mI (mI U 5 (nI (skR U n [32] t0 w0).1)) 6 (bI w)) ++ X) (fun w => 0) (fun w => 0) (fun w => [(0, .ref (mo 0)), (1, .int (nI mo1))]) (fun w => []) 4 (fun cont29 => ?_) ?_
  · refine lv_if_ne (tgt := 21) C.1 C.2.1 dX12_readNumber_11 (by decide) (fun c_11 => ?_) (fun c_11 => ?_)
    · have b_11 := bI_ne0.mp c_11
      refine lv_iconst (v := 1) C.1 C.2.1 dX12_readNumber_21 (by decide) ?_
      refine lv_goto (tgt := 26) C.1 C.2.1 dX12_readNumber_22 (by decide) ?_
      refine r_put C hw 0 rfl rfl in_X12 tyX12 tyX12_ok nmX12 12 (by decide) fl_X12_192 rfl rfl rfl rfl (Nat.le_of_ble_eq_true rfl) (w' := moW G mo (mI (mI U 5 (nI ((skR U n [32] t0 w0).1))) 6 1) ++ X) rfl dX12_readNumber_26 (fun H locs hw => ?_)
      exact cont29 true (by rw [b_11] <;> rfl) _ _ hw _ (lv_sub hl [0, 1] rfl)
    · have b_11 := bI_eq0.mp c_11
      refine lv_aload_n C.1 C.2.1 dX12_readNumber_14 rfl (lv_at hl 0 rfl) ?_
      refine r_vi C hw (k12_isDigit hF (mo := mo) (U := U) (X := X) (n := n) hn1 hn (t := ((skR U n [32] t0 w0).1)) htn_3 ((skR U n [32] t0 w0).2)) ml_X12_209 yf_X12_isDigit 0 rfl rfl (As := []) rfl rfl ⟨Nat.le_of_ble_eq_true rfl, Nat.le_of_ble_eq_true rfl⟩ ⟨Nat.le_of_ble_eq_true rfl, Nat.le_of_ble_eq_true rfl⟩ hl.1 (Nat.le_of_ble_eq_true rfl) dX12_readNumber_15 (fun r_15 _ H locs hp_15 hw => ?_)
      obtain rfl : r_15 = bI (idB U n ((skR U n [32] t0 w0).1) ((skR U n [32] t0 w0).2)) := hp_15
      replace hw : WH G s (moW G mo (mI (mI U 5 (nI ((skR U n [32] t0 w0).1))) 6 (bI (skR U n [32] t0 w0).2)) ++ X) H locs := hw
      refine lv_if_ne (tgt := 25) C.1 C.2.1 dX12_readNumber_18 (by decide) (fun c_18 => ?_) (fun c_18 => ?_)
      · have b_18 := bI_ne0.mp c_18
        refine lv_iconst (v := 0) C.1 C.2.1 dX12_readNumber_25 (by decide) ?_
        refine r_put C hw 0 rfl rfl in_X12 tyX12 tyX12_ok nmX12 12 (by decide) fl_X12_192 rfl rfl rfl rfl (Nat.le_of_ble_eq_true rfl) (w' := moW G mo (mI (mI U 5 (nI ((skR U n [32] t0 w0).1))) 6 0) ++ X) rfl dX12_readNumber_26 (fun H locs hw => ?_)
        exact cont29 false (by rw [b_18, b_11] <;> rfl) _ _ hw _ (lv_sub hl [0, 1] rfl)
      · have b_18 := bI_eq0.mp c_18
        refine lv_iconst (v := 1) C.1 C.2.1 dX12_readNumber_21 (by decide) ?_
        refine lv_goto (tgt := 26) C.1 C.2.1 dX12_readNumber_22 (by decide) ?_
        refine r_put C hw 0 rfl rfl in_X12 tyX12 tyX12_ok nmX12 12 (by decide) fl_X12_192 rfl rfl rfl rfl (Nat.le_of_ble_eq_true rfl) (w' := moW G mo (mI (mI U 5 (nI ((skR U n [32] t0 w0).1))) 6 1) ++ X) rfl dX12_readNumber_26 (fun H locs hw => ?_)
        exact cont29 true (by rw [b_18, b_11] <;> rfl) _ _ hw _ (lv_sub hl [0, 1] rfl)
  · rintro w hw2 H locs hw ls hl
    replace hw : WH G s (moW G mo (mI (mI U 5 (nI ((skR U n [32] t0 w0).1))) 6 (bI w)) ++ X) H locs := hw
    replace hl : lv_has ls 4 [(0, .ref (mo 0)), (1, .int (nI mo1))] := hl
    refine lv_iconst (v := 0) C.1 C.2.1 dX12_readNumber_29 (by decide) ?_
    refine lv_istore_n (lv' := [(2, .int 0), (0, .ref (mo 0)), (1, .int (nI mo1))]) C.1 C.2.1 dX12_readNumber_30 rfl hl (by decide) rfl (fun ls hl => ?_)
    refine lv_iconst (v := 0) C.1 C.2.1 dX12_readNumber_31 (by decide) ?_
    refine lv_istore_n (lv' := [(3, .int 0), (2, .int 0), (0, .ref (mo 0)), (1, .int (nI mo1))]) C.1 C.2.1 dX12_readNumber_32 rfl hl (by decide) rfl (fun ls hl => ?_)
    refine w_loop (σ := Nat × Nat × Int32) G (fun u ⟨k, t, x⟩ => k ≤ mo1 ∧ mo1 < k + u ∧ t ≤ n ∧ nmR U n w (mo1 - k) t x = nmR U n w mo1 (skR U n [32] t0 w0).1 0) (fun ⟨k, t, x⟩ => moW G mo (mI (mI U 5 (nI t)) 6 (bI w)) ++ X) (fun ⟨k, t, x⟩ => 0) (fun ⟨k, t, x⟩ => 0) (fun ⟨k, t, x⟩ => [(0, .ref (mo 0)), (1, .int (nI mo1)), (2, .int x), (3, .int (nI k))]) 4 ?_ ?_ (mo1 + 1) (0, (skR U n [32] t0 w0).1, 0) (⟨Nat.zero_le _, by omega, skR_le ht, rfl⟩) hw (lv_sub hl [2, 3, 1, 0] rfl)
    · rintro n33 ⟨k, t, x⟩ ⟨h1, h2, h3, h4⟩ ih33 H locs hw ls hl
      replace hw : WH G s (moW G mo (mI (mI U 5 (nI t)) 6 (bI w)) ++ X) H locs := hw
      replace hl : lv_has ls 4 [(0, .ref (mo 0)), (1, .int (nI mo1)), (2, .int x), (3, .int (nI k))] := hl
      refine lv_iload_n C.1 C.2.1 dX12_readNumber_33 rfl (lv_at hl 3 rfl) ?_
      refine lv_iload_n C.1 C.2.1 dX12_readNumber_34 rfl (lv_at hl 1 rfl) ?_
      refine lv_icmp_ge (tgt := 79) C.1 C.2.1 dX12_readNumber_35 (by decide) (fun c_35 => ?_) (fun c_35 => ?_)
      · obtain rfl := le_T h1 (by omega) c_35
        refine lv_iload_n C.1 C.2.1 dX12_readNumber_79 rfl (lv_at hl 2 rfl) ?_
        have hz : nmR U n w k (skR U n [32] t0 w0).1 0 = (t, x) := by rw [← h4, Nat.sub_self]; rfl
        exact r_iret C hw rfl rfl () (by simp only [rnM]; rw [← hw2, hz]) (by simp only [rnM]; rw [← hw2, hz]) (Nat.le_of_ble_eq_true rfl) (Nat.le_of_ble_eq_true rfl) dX12_readNumber_80
      · have hk := le_F h1 (by omega) c_35
        refine lv_aload_n C.1 C.2.1 dX12_readNumber_38 rfl (lv_at hl 0 rfl) ?_
        refine r_vi C hw (k12_isDigit hF (mo := mo) (U := U) (X := X) (n := n) hn1 hn (t := t) h3 w) ml_X12_209 yf_X12_isDigit 0 rfl rfl (As := []) rfl rfl ⟨Nat.le_of_ble_eq_true rfl, Nat.le_of_ble_eq_true rfl⟩ ⟨Nat.le_of_ble_eq_true rfl, Nat.le_of_ble_eq_true rfl⟩ hl.1 (Nat.le_of_ble_eq_true rfl) dX12_readNumber_39 (fun r_39 _ H locs hp_39 hw => ?_)
        obtain rfl : r_39 = bI (idB U n t w) := hp_39
        replace hw : WH G s (moW G mo (mI (mI U 5 (nI t)) 6 (bI w)) ++ X) H locs := hw
        refine lv_if_eq (tgt := 79) C.1 C.2.1 dX12_readNumber_42 (by decide) (fun c_42 => ?_) (fun c_42 => ?_)
        · have b_42 := bI_eq0.mp c_42
          refine lv_iload_n C.1 C.2.1 dX12_readNumber_79 rfl (lv_at hl 2 rfl) ?_
          have hz : nmR U n w mo1 (skR U n [32] t0 w0).1 0 = (t, x) := by rw [← h4, show mo1 - k = (mo1 - (k + 1)) + 1 by omega, nmR, if_neg (by rw [b_42]; decide)]
          exact r_iret C hw rfl rfl () (by simp only [rnM]; rw [← hw2, hz]) (by simp only [rnM]; rw [← hw2, hz]) (Nat.le_of_ble_eq_true rfl) (Nat.le_of_ble_eq_true rfl) dX12_readNumber_80
        · have b_42 := bI_ne0.mp c_42
          have hlt := idB_lt b_42
          refine lv_bipush (v := 10) C.1 C.2.1 dX12_readNumber_45 (by decide) ?_
          refine lv_iload_n C.1 C.2.1 dX12_readNumber_47 rfl (lv_at hl 2 rfl) ?_
          refine lv_imul C.1 C.2.1 dX12_readNumber_48 ?_
          refine lv_aload_n C.1 C.2.1 dX12_readNumber_49 rfl (lv_at hl 0 rfl) ?_
          refine r_get C hw 0 rfl rfl in_X12 9 (by decide) fl_X12_26 rfl (v := .ref (mo 6)) rfl dX12_readNumber_50 ?_
          refine lv_aload_n C.1 C.2.1 dX12_readNumber_53 rfl (lv_at hl 0 rfl) ?_
          refine r_get C hw 0 rfl rfl in_X12 11 (by decide) fl_X12_185 rfl (v := .int (nI t)) rfl dX12_readNumber_54 ?_
          refine r_cald C hw 6 rfl (vp_in_nI (n := t) (by omega) (by decide)) dX12_readNumber_57 ?_
          refine r_toe (show _ = (U.2 5) t from congrArg (U.2 5) (nI_clamp (n := t) (by omega))) ?_
          refine lv_iadd C.1 C.2.1 dX12_readNumber_58 ?_
          refine lv_bipush (v := 48) C.1 C.2.1 dX12_readNumber_59 (by decide) ?_
          refine lv_isub C.1 C.2.1 dX12_readNumber_61 ?_
          refine lv_istore_n (lv' := [(2, .int (((10 * x) + ((U.2 5) t)) - 48)), (0, .ref (mo 0)), (1, .int (nI mo1)), (3, .int (nI k))]) C.1 C.2.1 dX12_readNumber_62 rfl hl (by decide) rfl (fun ls hl => ?_)
          refine lv_aload_n C.1 C.2.1 dX12_readNumber_63 rfl (lv_at hl 1 rfl) ?_
          refine lv_dup C.1 C.2.1 dX12_readNumber_64 rfl ?_
          refine r_get C hw 0 rfl rfl in_X12 11 (by decide) fl_X12_185 rfl (v := .int (nI t)) rfl dX12_readNumber_65 ?_
          refine lv_iconst (v := 1) C.1 C.2.1 dX12_readNumber_68 (by decide) ?_
          refine lv_iadd C.1 C.2.1 dX12_readNumber_69 ?_
          refine r_toe (nI_add t 1) ?_
          refine r_put C hw 0 rfl rfl in_X12 tyX12 tyX12_ok nmX12 11 (by decide) fl_X12_185 rfl rfl rfl rfl (Nat.le_of_ble_eq_true rfl) (w' := moW G mo (mI (mI U 5 (nI (t + 1))) 6 (bI w)) ++ X) rfl dX12_readNumber_70 (fun H locs hw => ?_)
          refine lv_iinc (v := nI (k + 1)) (lv' := [(3, .int (nI (k + 1))), (2, .int (((10 * x) + ((U.2 5) t)) - 48)), (0, .ref (mo 0)), (1, .int (nI mo1))]) C.1 C.2.1 dX12_readNumber_73 hl (k := 3) rfl (inc_nI k) (by decide) rfl (fun ls hl => ?_)
          refine lv_goto (tgt := 33) C.1 C.2.1 dX12_readNumber_76 (by decide) ?_
          exact ih33 (k + 1, t + 1, 10 * x + U.2 5 t - 48) (⟨by omega, by omega, hlt, by rw [← h4, show mo1 - k = (mo1 - (k + 1)) + 1 by omega, nmR, if_pos b_42]⟩) _ _ hw _ (lv_sub hl [2, 3, 1, 0] rfl)
    · rintro ⟨k, t, x⟩ ⟨h1, h2, h3, h4⟩; omega

