/-! The model: a text is carried out -/
theorem skR_mo {U : MV_} {n : Nat} : ∀ {L : List Int32} {t : Nat} {w : Bool}, t ≤ (skR U n L t w).1 ∧ ((skR U n L t w).2 = false → t + L.length ≤ (skR U n L t w).1 ∧ w = false ∨ L = [])
  | [], _, _ => ⟨Nat.le_refl _, fun _ => Or.inr rfl⟩
  | c :: L, t, w => by
    rw [skR]
    split
    · exact ⟨Nat.le_refl _, fun h => by rename_i hw; rw [hw] at h; cases h⟩
    · split
      · have h := @skR_mo U n L (t + 1) false
        refine ⟨by omega, fun hf => Or.inl ⟨?_, by rename_i hw _; simpa using hw⟩⟩
        rcases h.2 hf with h2 | h2
        · simp only [List.length_cons]; omega
        · subst h2; simp only [List.length_cons, List.length_nil]; omega
      · exact ⟨Nat.le_refl _, fun h => by cases h⟩
theorem nmR_mo {U : MV_} {n : Nat} {w : Bool} : ∀ {k t : Nat} {x : Int32}, t ≤ (nmR U n w k t x).1
  | 0, _, _ => Nat.le_refl _
  | k + 1, t, x => by
    rw [nmR]
    split
    · exact Nat.le_trans (Nat.le_succ t) nmR_mo
    · exact Nat.le_refl _
theorem rnM_mo {U : MV_} {n m t : Nat} {w : Bool} : t ≤ (rnM U n m t w).1.1 ∧ ((rnM U n m t w).1.2 = false → w = false) := by
  refine ⟨Nat.le_trans skR_mo.1 nmR_mo, fun h => ?_⟩
  simp only [rnM, Bool.or_eq_false_iff] at h
  rcases skR_mo.2 h.1 with h2 | h2
  · exact h2.2
  · cases h2
theorem rdP_mo {U : MV_} {n : Nat} : ∀ {ms : List Nat} {i : Nat} {a : Nat × Bool} {c : Nat → Int32}, a.1 ≤ (rdP U n ms i a c).1.1 ∧ ((rdP U n ms i a c).1.2 = false → a.2 = false)
  | [], _, _, _ => ⟨Nat.le_refl _, id⟩
  | m :: ms, i, a, c => by
    rw [rdP]
    have h := @rdP_mo U n ms (i + 1) (rnM U n m a.1 a.2).1 (upd c i (rnM U n m a.1 a.2).2)
    have h2 := @rnM_mo U n m a.1 a.2
    exact ⟨Nat.le_trans h2.1 h.1, fun q => h2.2 (h.2 q)⟩
theorem rdP_le {U : MV_} {n : Nat} : ∀ {ms : List Nat} {i : Nat} {a : Nat × Bool} {c : Nat → Int32}, a.1 ≤ n → (rdP U n ms i a c).1.1 ≤ n
  | [], _, _, _, h => h
  | m :: ms, i, a, c, h => by
    rw [rdP]
    exact rdP_le (rnM_le h)
theorem vbL_ne (k : Int32) : 1 ≤ (vbL k).1.length := by unfold vbL; (repeat' split) <;> decide
theorem rcM_mo {U : MV_} {n t cm : Nat} {w : Bool} {c : Nat → Int32} : t ≤ (rcM U n t w cm c).1.1 ∧ ((rcM U n t w cm c).1.2 = false → t + 1 ≤ (rcM U n t w cm c).1.1) := by
  unfold rcM
  split
  · exact ⟨Nat.le_refl _, fun h => by rename_i hw; rw [hw] at h; cases h⟩
  · unfold rcN
    generalize rcK (beC U n t 0) (beC U n t 1) = k
    have h1 := @skR_mo U n (vbL k).1 t false
    have h2 := @rdP_mo U n (vbL k).2 (4 * cm + 1) (skR U n (vbL k).1 t false) (upd c (4 * cm) k)
    refine ⟨Nat.le_trans h1.1 h2.1, fun h => ?_⟩
    rcases h1.2 (h2.2 h) with h3 | h3
    · have := vbL_ne k
      show t + 1 ≤ (rdP U n (vbL k).2 (4 * cm + 1) (skR U n (vbL k).1 t false) (upd c (4 * cm) k)).1.1
      omega
    · have := vbL_ne k; rw [h3] at this; simp at this
theorem rcM_le {U : MV_} {n t cm : Nat} {w : Bool} {c : Nat → Int32} (h : t ≤ n) : (rcM U n t w cm c).1.1 ≤ n := by
  unfold rcM
  split
  · exact h
  · exact rdP_le (skR_le h)
theorem rcM_cm {U : MV_} {n t cm : Nat} {c : Nat → Int32} : (rcM U n t false cm c).2.1 = cm + 1 := rfl
def rdA (U : MV_) (n : Nat) : Nat → Nat × Bool → Nat → (Nat → Int32) → (Nat × Bool) × Nat × (Nat → Int32)
  | 0, a, cm, c => (a, cm, c)
  | v + 1, a, cm, c => if a.2 = false ∧ beC U n a.1 0 = 59 then rdA U n v (rcM U n (a.1 + 1) false cm c).1 (rcM U n (a.1 + 1) false cm c).2.1 (rcM U n (a.1 + 1) false cm c).2.2 else (a, cm, c)
theorem rdA_s {U : MV_} {n v cm : Nat} {a : Nat × Bool} {c : Nat → Int32} (h : ¬ (a.2 = false ∧ beC U n a.1 0 = 59)) : rdA U n (v + 1) a cm c = (a, cm, c) := by rw [rdA, if_neg h]
theorem rdA_g {U : MV_} {n v cm t : Nat} {c : Nat → Int32} (h : beC U n t 0 = 59) : rdA U n (v + 1) (t, false) cm c = rdA U n v (rcM U n (t + 1) false cm c).1 (rcM U n (t + 1) false cm c).2.1 (rcM U n (t + 1) false cm c).2.2 := by rw [rdA, if_pos ⟨rfl, h⟩]
def exP (U : MV_) (n : Nat) : (Nat × Bool) × Nat × (Nat → Int32) := rdA U n 61 (rcM U n 0 false 0 (U.2 6)).1 (rcM U n 0 false 0 (U.2 6)).2.1 (rcM U n 0 false 0 (U.2 6)).2.2
def exV (U : MV_) (t : Nat) (w : Bool) (cm : Nat) (c : Nat → Int32) (e : Int32) : MV_ := mI (mI (mI (mI (mR (mI U 9 (nI cm)) 6 c) 7 e) 4 0) 5 (nI t)) 6 (bI w)
def exR : Nat → Nat → MV_ → MV_ × Option Nat
  | 0, _, U => (U, none)
  | v + 1, k, U => if (doC U k).1 2 ≤ 0 then exR v (k + 1) (doC U k) else (doC U k, some k)
def exO : Nat → Nat → MV_ → Prop
  | 0, _, _ => True
  | v + 1, k, U => okF (U.2 0) ∧ (U.2 6 (4 * k) = 108 → ¬ U.2 0 4 = 0 → ∃ g, clG (U.2 0) = some g) ∧ ((doC U k).1 2 ≤ 0 → exO v (k + 1) (doC U k))
theorem exO_ok {cm k : Nat} {U : MV_} (h : exO (cm - k) k U) (hk : k < cm) : okF (U.2 0) := by
  rw [show cm - k = (cm - (k + 1)) + 1 by omega] at h
  exact h.1
theorem exO_cl {cm k : Nat} {U : MV_} (h : exO (cm - k) k U) (hk : k < cm) : U.2 6 (4 * k) = 108 → ¬ U.2 0 4 = 0 → ∃ g, clG (U.2 0) = some g := by
  rw [show cm - k = (cm - (k + 1)) + 1 by omega] at h
  exact h.2.1
theorem exO_s {cm k : Nat} {U : MV_} (h : exO (cm - k) k U) (hk : k < cm) (ht : (doC U k).1 2 ≤ 0) : exO (cm - (k + 1)) (k + 1) (doC U k) := by
  rw [show cm - k = (cm - (k + 1)) + 1 by omega] at h
  exact h.2.2 ht
theorem exR_s {cm k : Nat} {U : MV_} (hk : k < cm) (ht : (doC U k).1 2 ≤ 0) : exR (cm - k) k U = exR (cm - (k + 1)) (k + 1) (doC U k) := by
  rw [show cm - k = (cm - (k + 1)) + 1 by omega, exR, if_pos ht]
theorem exR_f {cm k : Nat} {U : MV_} (hk : k < cm) (ht : ¬ (doC U k).1 2 ≤ 0) : exR (cm - k) k U = (doC U k, some k) := by
  rw [show cm - k = (cm - (k + 1)) + 1 by omega, exR, if_neg ht]
def exF (h cm : Nat) : MV_ × Option Nat → MV_ × Int32
  | (V, none) => (endU V h, endA V (nI cm))
  | (V, some k) => (endU (mI (mI V 8 (nI k)) 2 2) h, endA (mI (mI V 8 (nI k)) 2 2) 0)
def exB (U : MV_) (n : Nat) : Bool := (exP U n).1.2 || decide ((exP U n).1.1 < n)
def exM (U : MV_) (n h : Nat) : MV_ × Int32 :=
  if exB U n = true then (mI (exV U (exP U n).1.1 true (exP U n).2.1 (exP U n).2.2 (nI (exP U n).1.1)) 2 1, 0)
  else exF h (exP U n).2.1 (exR (exP U n).2.1 0 (kpU (exV U (exP U n).1.1 false (exP U n).2.1 (exP U n).2.2 (U.1 7))))
theorem be_59 {U : MV_} {n t : Nat} (h : beC U n t 0 = 59) : t < n := by
  unfold beC at h
  split at h
  · omega
  · exact absurd h (by decide)

set_option maxHeartbeats 4000000 in
set_option maxRecDepth 100000 in
theorem k12_execute {l : Launch} {G : Gx} (hF : SF l G) {mo : Nat → Nat} {U : MV_} {X : va_W} {n : Nat} (hn1 : U.1 4 = nI n) (hn : n ≤ 60) {h : Nat} (hh1 : U.1 1 = nI h) (hh8 : h ≤ 8) (hO : exB U n = false → exO (exP U n).2.1 0 (kpU (exV U (exP U n).1.1 false (exP U n).2.1 (exP U n).2.2 (U.1 7)))) : MI l G yX12_execute cX12_execute 2 .int 8 0 0 [.ref (mo 0)] (moW G mo U ++ X) (fun r _ => r = (exM U n h).2) (fun _ : Unit => moW G mo (exM U n h).1 ++ X) := by
  refine mt_of hF (by decide) (Nat.le_of_ble_eq_true rfl) ?_
  intro p e s m below meth c C hin ls hl H locs hw
  have hl : lv_has ls 2 [(0, .ref (mo 0))] := hl
  refine lv_aload_n C.1 C.2.1 dX12_execute_0 rfl (lv_at hl 0 rfl) ?_
  refine lv_iconst (v := 0) C.1 C.2.1 dX12_execute_1 (by decide) ?_
  refine r_put C hw 0 rfl rfl in_X12 tyX12 tyX12_ok nmX12 11 (by decide) fl_X12_185 rfl rfl rfl rfl (Nat.le_of_ble_eq_true rfl) (w' := moW G mo (mI U 5 0) ++ X) rfl dX12_execute_2 (fun H locs hw => ?_)
  refine lv_aload_n C.1 C.2.1 dX12_execute_5 rfl (lv_at hl 0 rfl) ?_
  refine lv_iconst (v := 0) C.1 C.2.1 dX12_execute_6 (by decide) ?_
  refine r_put C hw 0 rfl rfl in_X12 tyX12 tyX12_ok nmX12 12 (by decide) fl_X12_192 rfl rfl rfl rfl (Nat.le_of_ble_eq_true rfl) (w' := moW G mo (mI (mI U 5 0) 6 0) ++ X) rfl dX12_execute_7 (fun H locs hw => ?_)
  refine lv_aload_n C.1 C.2.1 dX12_execute_10 rfl (lv_at hl 0 rfl) ?_
  refine lv_iconst (v := 0) C.1 C.2.1 dX12_execute_11 (by decide) ?_
  refine r_put C hw 0 rfl rfl in_X12 tyX12 tyX12_ok nmX12 16 (by decide) fl_X12_213 rfl rfl rfl rfl (Nat.le_of_ble_eq_true rfl) (w' := moW G mo (mI (mI (mI U 9 0) 5 0) 6 0) ++ X) rfl dX12_execute_12 (fun H locs hw => ?_)
  replace hw : WH G s (moW G mo (mI (mI (mR (mI U 9 (nI 0)) 6 (U.2 6)) 5 (nI 0)) 6 (bI false)) ++ X) H locs := hw
  refine lv_aload_n C.1 C.2.1 dX12_execute_15 rfl (lv_at hl 0 rfl) ?_
  refine r_vv C hw (k12_readCommand hF (mo := mo) (U := U) (X := X) hn1 hn (t0 := 0) (Nat.zero_le n) false (cm := 0) (by decide) (U.2 6)) ml_X12_232 yf_X12_readCommand 0 rfl rfl (As := []) rfl rfl ⟨Nat.le_of_ble_eq_true rfl, Nat.le_of_ble_eq_true rfl⟩ ⟨Nat.le_of_ble_eq_true rfl, Nat.le_of_ble_eq_true rfl⟩ hl.1 (Nat.le_of_ble_eq_true rfl) dX12_execute_16 (fun _ H locs hp_16 hw => ?_)
  generalize hq_16 : rcM U n 0 false 0 (U.2 6) = rc_16 at hw
  replace hw : WH G s (moW G mo (mI (mI (mR (mI U 9 (nI (rc_16.2.1))) 6 rc_16.2.2) 5 (nI (rc_16.1.1))) 6 (bI rc_16.1.2)) ++ X) H locs := hw
  have hmo := @rcM_mo U n 0 0 false (U.2 6)
  have hle := @rcM_le U n 0 0 false (U.2 6) (Nat.zero_le n)
  have hcm0 : (rcM U n 0 false 0 (U.2 6)).2.1 = 1 := rfl
  have hex : exP U n = rdA U n 61 rc_16.1 rc_16.2.1 rc_16.2.2 := by rw [exP, hq_16]
  rw [hq_16] at hmo hle hcm0
  refine w_loop (σ := (Nat × Bool) × Nat × (Nat → Int32)) G (fun u ⟨⟨t, w⟩, cm, cx⟩ => t ≤ n ∧ n < t + u ∧ (w = false → cm ≤ t) ∧ cm ≤ 60 ∧ rdA U n u (t, w) cm cx = exP U n) (fun ⟨⟨t, w⟩, cm, cx⟩ => moW G mo (mI (mI (mR (mI U 9 (nI cm)) 6 cx) 5 (nI t)) 6 (bI w)) ++ X) (fun ⟨⟨t, w⟩, cm, cx⟩ => 0) (fun ⟨⟨t, w⟩, cm, cx⟩ => 0) (fun ⟨⟨t, w⟩, cm, cx⟩ => [(0, .ref (mo 0))]) 2 ?_ ?_ 61 ((rc_16.1.1, rc_16.1.2), rc_16.2.1, rc_16.2.2) (⟨hle, by omega, fun q => by have := hmo.2 q; omega, by omega, hex.symm⟩) hw (lv_sub hl [0] rfl)
  · rintro n19 ⟨⟨t, w⟩, cm, cx⟩ ⟨h1, h2, h3, h4, h5⟩ ih19 H locs hw ls hl
    replace hw : WH G s (moW G mo (mI (mI (mR (mI U 9 (nI cm)) 6 cx) 5 (nI t)) 6 (bI w)) ++ X) H locs := hw
    replace hl : lv_has ls 2 [(0, .ref (mo 0))] := hl
    refine lv_aload_n C.1 C.2.1 dX12_execute_19 rfl (lv_at hl 0 rfl) ?_
    refine r_get C hw 0 rfl rfl in_X12 12 (by decide) fl_X12_192 rfl (v := .int (bI w)) rfl dX12_execute_20 ?_
    refine lv_if_ne (tgt := 53) C.1 C.2.1 dX12_execute_23 (by decide) (fun c_23 => ?_) (fun c_23 => ?_)
    · obtain rfl : w = true := bI_ne0.mp c_23
      replace hw : WH G s (moW G mo (mI (mI (mR (mI U 9 (nI cm)) 6 cx) 5 (nI t)) 6 (bI true)) ++ X) H locs := hw
      have hx : exP U n = ((t, true), cm, cx) := by rw [← h5, rdA_s (fun q => by cases q.1)]
      refine w_join (σ := Bool) G (pc1 := 77) (fun w2 => w2 = exB U n) (fun w2 => moW G mo (mI (mI (mR (mI U 9 (nI cm)) 6 cx) 5 (nI t)) 6 (bI true)) ++ X) (fun w2 => 0) (fun w2 => 0) (fun w2 => [(0, .ref (mo 0))]) (fun w2 => [.int (bI w2), .ref (mo 0)]) 2 (fun cont77 => ?_) ?_
      · refine lv_aload_n C.1 C.2.1 dX12_execute_53 rfl (lv_at hl 0 rfl) ?_
        refine lv_aload_n C.1 C.2.1 dX12_execute_54 rfl (lv_at hl 0 rfl) ?_
        refine r_get C hw 0 rfl rfl in_X12 12 (by decide) fl_X12_192 rfl (v := .int (bI true)) rfl dX12_execute_55 ?_
        refine lv_if_ne (tgt := 72) C.1 C.2.1 dX12_execute_58 (by decide) (fun c_58 => ?_) (fun c_58 => absurd c_58 (by decide))
        refine lv_iconst (v := 1) C.1 C.2.1 dX12_execute_72 (by decide) ?_
        refine lv_goto (tgt := 77) C.1 C.2.1 dX12_execute_73 (by decide) ?_
        exact cont77 true (by rw [exB, hx]; rfl) _ _ hw _ (lv_sub hl [0] rfl)
      · rintro w2 hw2 H locs hw ls hl
        replace hw : WH G s (moW G mo (mI (mI (mR (mI U 9 (nI cm)) 6 cx) 5 (nI t)) 6 (bI true)) ++ X) H locs := hw
        replace hl : lv_has ls 2 [(0, .ref (mo 0))] := hl
        refine r_put C hw 0 rfl rfl in_X12 tyX12 tyX12_ok nmX12 12 (by decide) fl_X12_192 rfl rfl (bI_nar _) (bI_fit _) (Nat.le_of_ble_eq_true rfl) (w' := moW G mo (mI (mI (mR (mI U 9 (nI cm)) 6 cx) 5 (nI t)) 6 (bI w2)) ++ X) rfl dX12_execute_77 (fun H locs hw => ?_)
        refine lv_aload_n C.1 C.2.1 dX12_execute_80 rfl (lv_at hl 0 rfl) ?_
        refine lv_aload_n C.1 C.2.1 dX12_execute_81 rfl (lv_at hl 0 rfl) ?_
        refine r_get C hw 0 rfl rfl in_X12 12 (by decide) fl_X12_192 rfl (v := .int (bI w2)) rfl dX12_execute_82 ?_
        refine lv_if_eq (tgt := 95) C.1 C.2.1 dX12_execute_85 (by decide) (fun c_85 => ?_) (fun c_85 => ?_)
        · obtain rfl : w2 = false := bI_eq0.mp c_85
          replace hw : WH G s (moW G mo (mI (mI (mR (mI U 9 (nI cm)) 6 cx) 5 (nI t)) 6 (bI false)) ++ X) H locs := hw
          refine lv_aload_n C.1 C.2.1 dX12_execute_95 rfl (lv_at hl 0 rfl) ?_
          refine r_get C hw 0 rfl rfl in_X12 13 (by decide) fl_X12_29 rfl (v := .int (U.1 7)) rfl dX12_execute_96 ?_
          refine r_put C hw 0 rfl rfl in_X12 tyX12 tyX12_ok nmX12 13 (by decide) fl_X12_29 rfl rfl rfl rfl (Nat.le_of_ble_eq_true rfl) (w' := moW G mo (mI (mI (mI (mR (mI U 9 (nI cm)) 6 cx) 7 (U.1 7)) 5 (nI t)) 6 (bI false)) ++ X) rfl dX12_execute_99 (fun H locs hw => ?_)
          refine lv_aload_n C.1 C.2.1 dX12_execute_102 rfl (lv_at hl 0 rfl) ?_
          refine lv_iconst (v := 0) C.1 C.2.1 dX12_execute_103 (by decide) ?_
          refine r_put C hw 0 rfl rfl in_X12 tyX12 tyX12_ok nmX12 10 (by decide) fl_X12_182 rfl rfl rfl rfl (Nat.le_of_ble_eq_true rfl) (w' := moW G mo (mI (mI (mI (mI (mR (mI U 9 (nI cm)) 6 cx) 7 (U.1 7)) 4 0) 5 (nI t)) 6 (bI false)) ++ X) rfl dX12_execute_104 (fun H locs hw => ?_)
          refine lv_aload_n C.1 C.2.1 dX12_execute_107 rfl (lv_at hl 0 rfl) ?_
          refine r_get C hw 0 rfl rfl in_X12 12 (by decide) fl_X12_192 rfl (v := .int (bI false)) rfl dX12_execute_108 ?_
          refine lv_if_eq (tgt := 120) C.1 C.2.1 dX12_execute_111 (by decide) (fun c_111 => ?_) (fun c_111 => absurd (by decide) c_111)
          refine lv_aload_n C.1 C.2.1 dX12_execute_120 rfl (lv_at hl 0 rfl) ?_
          refine r_vv C hw (k12_keep hF (mo := mo) (U := (mI (mI (mI (mI (mR (mI U 9 (nI cm)) 6 cx) 7 (U.1 7)) 4 0) 5 (nI t)) 6 (bI false))) (X := X)) ml_X12_101 yf_X12_keep 0 rfl rfl (As := []) rfl rfl ⟨Nat.le_of_ble_eq_true rfl, Nat.le_of_ble_eq_true rfl⟩ ⟨Nat.le_of_ble_eq_true rfl, Nat.le_of_ble_eq_true rfl⟩ hl.1 (Nat.le_of_ble_eq_true rfl) dX12_execute_121 (fun _ H locs hp_121 hw => ?_)
          replace hw : WH G s (moW G mo (kpU (mI (mI (mI (mI (mR (mI U 9 (nI cm)) 6 cx) 7 (U.1 7)) 4 0) 5 (nI t)) 6 (bI false))) ++ X) H locs := hw
          refine lv_iconst (v := 0) C.1 C.2.1 dX12_execute_124 (by decide) ?_
          refine lv_istore_n (lv' := [(1, .int 0), (0, .ref (mo 0))]) C.1 C.2.1 dX12_execute_125 rfl hl (by decide) rfl (fun ls hl => ?_)
          obtain ⟨V0, hV0⟩ : ∃ V0, V0 = (kpU (mI (mI (mI (mI (mR (mI U 9 (nI cm)) 6 cx) 7 (U.1 7)) 4 0) 5 (nI t)) 6 (bI false))) := ⟨_, rfl⟩
          rw [← hV0] at hw
          refine w_loop (σ := Nat × MV_) G (fun u ⟨k, V⟩ => k ≤ cm ∧ cm < k + u ∧ V.1 9 = nI cm ∧ exO (cm - k) k V ∧ V.1 1 = nI h ∧ exR (cm - k) k V = exR cm 0 V0) (fun ⟨k, V⟩ => moW G mo V ++ X) (fun ⟨k, V⟩ => 0) (fun ⟨k, V⟩ => 0) (fun ⟨k, V⟩ => [(0, .ref (mo 0)), (1, .int (nI k))]) 2 ?_ ?_ (cm + 1) (0, V0) (⟨Nat.zero_le _, by omega, by rw [hV0]; rfl, by rw [hV0, Nat.sub_zero]; have q := hO (hw2.symm); rw [hx] at q; exact q, by rw [hV0]; exact hh1, by rw [Nat.sub_zero]⟩) hw (lv_sub hl [1, 0] rfl)
          · rintro n126 ⟨k, V⟩ ⟨i1, i2, i3, hi4, i5, i6⟩ ih126 H locs hw ls hl
            replace hw : WH G s (moW G mo V ++ X) H locs := hw
            replace hl : lv_has ls 2 [(0, .ref (mo 0)), (1, .int (nI k))] := hl
            refine lv_iload_n C.1 C.2.1 dX12_execute_126 rfl (lv_at hl 1 rfl) ?_
            refine lv_aload_n C.1 C.2.1 dX12_execute_127 rfl (lv_at hl 0 rfl) ?_
            refine r_get C hw 0 rfl rfl in_X12 16 (by decide) fl_X12_213 rfl (v := .int (V.1 9)) rfl dX12_execute_128 ?_
            refine r_toe (show _ = nI cm from i3) ?_
            refine lv_icmp_ge (tgt := 167) C.1 C.2.1 dX12_execute_131 (by decide) (fun c_131 => ?_) (fun c_131 => ?_)
            · have hkc : k = cm := le_T i1 (by omega) c_131
              refine lv_aload_n C.1 C.2.1 dX12_execute_167 rfl (lv_at hl 0 rfl) ?_
              refine lv_aload_n C.1 C.2.1 dX12_execute_168 rfl (lv_at hl 0 rfl) ?_
              refine r_get C hw 0 rfl rfl in_X12 16 (by decide) fl_X12_213 rfl (v := .int (V.1 9)) rfl dX12_execute_169 ?_
              refine r_toe (show _ = nI cm from i3) ?_
              refine r_vi C hw (k12_ends hF (mo := mo) (U := V) (X := X) (h := h) i5 hh8 (nI cm)) ml_X12_107 yf_X12_ends 0 rfl rfl (As := [.int (nI cm)]) rfl rfl ⟨Nat.le_of_ble_eq_true rfl, Nat.le_of_ble_eq_true rfl⟩ ⟨Nat.le_of_ble_eq_true rfl, Nat.le_of_ble_eq_true rfl⟩ hl.1 (Nat.le_of_ble_eq_true rfl) dX12_execute_172 (fun r_172 _ H locs hp_172 hw => ?_)
              obtain rfl : r_172 = endA V (nI cm) := hp_172
              replace hw : WH G s (moW G mo (endU V h) ++ X) H locs := hw
              have hz : exM U n h = exF h cm (exR cm 0 V0) := by rw [exM, if_neg (by rw [← hw2]; decide), hx, hV0] <;> rfl
              rw [← i6, hkc, Nat.sub_self] at hz
              exact r_iret C hw rfl rfl () (by rw [hz]; rfl) (by rw [hz]; rfl) (Nat.le_of_ble_eq_true rfl) (Nat.le_of_ble_eq_true rfl) dX12_execute_175
            · have hk := le_F i1 (by omega) c_131
              refine lv_aload_n C.1 C.2.1 dX12_execute_134 rfl (lv_at hl 0 rfl) ?_
              refine lv_iload_n C.1 C.2.1 dX12_execute_135 rfl (lv_at hl 1 rfl) ?_
              refine r_vv C hw (k12_does hF (mo := mo) (U := V) (X := X) (exO_ok hi4 hk) (k := k) (by omega) (exO_cl hi4 hk)) ml_X12_235 yf_X12_does 0 rfl rfl (As := [.int (nI k)]) rfl rfl ⟨Nat.le_of_ble_eq_true rfl, Nat.le_of_ble_eq_true rfl⟩ ⟨Nat.le_of_ble_eq_true rfl, Nat.le_of_ble_eq_true rfl⟩ hl.1 (Nat.le_of_ble_eq_true rfl) dX12_execute_136 (fun _ H locs hp_136 hw => ?_)
              replace hw : WH G s (moW G mo (doC V k) ++ X) H locs := hw
              refine lv_aload_n C.1 C.2.1 dX12_execute_139 rfl (lv_at hl 0 rfl) ?_
              refine r_get C hw 0 rfl rfl in_X12 6 (by decide) fl_X12_39 rfl (v := .int ((doC V k).1 2)) rfl dX12_execute_140 ?_
              refine lv_if_le (tgt := 161) C.1 C.2.1 dX12_execute_143 (by decide) (fun c_143 => ?_) (fun c_143 => ?_)
              · refine lv_iinc (v := nI (k + 1)) (lv' := [(1, .int (nI (k + 1))), (0, .ref (mo 0))]) C.1 C.2.1 dX12_execute_161 hl (k := 1) rfl (inc_nI k) (by decide) rfl (fun ls hl => ?_)
                refine lv_goto (tgt := 126) C.1 C.2.1 dX12_execute_164 (by decide) ?_
                exact ih126 (k + 1, doC V k) (⟨by omega, by omega, by rw [doC_j (by decide)]; exact i3, exO_s hi4 hk c_143, by rw [doC_j (by decide)]; exact i5, by rw [← i6, exR_s hk c_143]⟩) _ _ hw _ (lv_sub hl [1, 0] rfl)
              · refine lv_aload_n C.1 C.2.1 dX12_execute_146 rfl (lv_at hl 0 rfl) ?_
                refine lv_iload_n C.1 C.2.1 dX12_execute_147 rfl (lv_at hl 1 rfl) ?_
                refine r_put C hw 0 rfl rfl in_X12 tyX12 tyX12_ok nmX12 14 (by decide) fl_X12_33 rfl rfl rfl rfl (Nat.le_of_ble_eq_true rfl) (w' := moW G mo (mI (doC V k) 8 (nI k)) ++ X) rfl dX12_execute_148 (fun H locs hw => ?_)
                refine lv_aload_n C.1 C.2.1 dX12_execute_151 rfl (lv_at hl 0 rfl) ?_
                refine lv_aload_n C.1 C.2.1 dX12_execute_152 rfl (lv_at hl 0 rfl) ?_
                refine lv_iconst (v := 2) C.1 C.2.1 dX12_execute_153 (by decide) ?_
                refine r_vi C hw (k12_fails hF (mo := mo) (U := (mI (doC V k) 8 (nI k))) (X := X) 2) ml_X12_90 yf_X12_fails 0 rfl rfl (As := [.int 2]) rfl rfl ⟨Nat.le_of_ble_eq_true rfl, Nat.le_of_ble_eq_true rfl⟩ ⟨Nat.le_of_ble_eq_true rfl, Nat.le_of_ble_eq_true rfl⟩ hl.1 (Nat.le_of_ble_eq_true rfl) dX12_execute_154 (fun r_154 _ H locs hp_154 hw => ?_)
                obtain rfl : r_154 = 0 := hp_154
                replace hw : WH G s (moW G mo (mI (mI (doC V k) 8 (nI k)) 2 2) ++ X) H locs := hw
                refine r_vi C hw (k12_ends hF (mo := mo) (U := (mI (mI (doC V k) 8 (nI k)) 2 2)) (X := X) (h := h) (by rw [mI_ne (by decide), mI_ne (by decide), doC_j (by decide)]; exact i5) hh8 0) ml_X12_107 yf_X12_ends 0 rfl rfl (As := [.int 0]) rfl rfl ⟨Nat.le_of_ble_eq_true rfl, Nat.le_of_ble_eq_true rfl⟩ ⟨Nat.le_of_ble_eq_true rfl, Nat.le_of_ble_eq_true rfl⟩ hl.1 (Nat.le_of_ble_eq_true rfl) dX12_execute_157 (fun r_157 _ H locs hp_157 hw => ?_)
                obtain rfl : r_157 = endA (mI (mI (doC V k) 8 (nI k)) 2 2) 0 := hp_157
                replace hw : WH G s (moW G mo (endU (mI (mI (doC V k) 8 (nI k)) 2 2) h) ++ X) H locs := hw
                have hz : exM U n h = exF h cm (exR cm 0 V0) := by rw [exM, if_neg (by rw [← hw2]; decide), hx, hV0] <;> rfl
                rw [← i6, exR_f hk c_143] at hz
                exact r_iret C hw rfl rfl () (by rw [hz]; rfl) (by rw [hz]; rfl) (Nat.le_of_ble_eq_true rfl) (Nat.le_of_ble_eq_true rfl) dX12_execute_160
          · rintro ⟨k, V⟩ ⟨i1, i2, i3, hi4, i5, i6⟩; omega
        · obtain rfl : w2 = true := bI_ne0.mp c_85
          replace hw : WH G s (moW G mo (mI (mI (mR (mI U 9 (nI cm)) 6 cx) 5 (nI t)) 6 (bI true)) ++ X) H locs := hw
          refine lv_aload_n C.1 C.2.1 dX12_execute_88 rfl (lv_at hl 0 rfl) ?_
          refine r_get C hw 0 rfl rfl in_X12 11 (by decide) fl_X12_185 rfl (v := .int (nI t)) rfl dX12_execute_89 ?_
          refine lv_goto (tgt := 99) C.1 C.2.1 dX12_execute_92 (by decide) ?_
          refine r_put C hw 0 rfl rfl in_X12 tyX12 tyX12_ok nmX12 13 (by decide) fl_X12_29 rfl rfl rfl rfl (Nat.le_of_ble_eq_true rfl) (w' := moW G mo (mI (mI (mI (mR (mI U 9 (nI cm)) 6 cx) 7 (nI t)) 5 (nI t)) 6 (bI true)) ++ X) rfl dX12_execute_99 (fun H locs hw => ?_)
          refine lv_aload_n C.1 C.2.1 dX12_execute_102 rfl (lv_at hl 0 rfl) ?_
          refine lv_iconst (v := 0) C.1 C.2.1 dX12_execute_103 (by decide) ?_
          refine r_put C hw 0 rfl rfl in_X12 tyX12 tyX12_ok nmX12 10 (by decide) fl_X12_182 rfl rfl rfl rfl (Nat.le_of_ble_eq_true rfl) (w' := moW G mo (mI (mI (mI (mI (mR (mI U 9 (nI cm)) 6 cx) 7 (nI t)) 4 0) 5 (nI t)) 6 (bI true)) ++ X) rfl dX12_execute_104 (fun H locs hw => ?_)
          refine lv_aload_n C.1 C.2.1 dX12_execute_107 rfl (lv_at hl 0 rfl) ?_
          refine r_get C hw 0 rfl rfl in_X12 12 (by decide) fl_X12_192 rfl (v := .int (bI true)) rfl dX12_execute_108 ?_
          refine lv_if_eq (tgt := 120) C.1 C.2.1 dX12_execute_111 (by decide) (fun c_111 => absurd c_111 (by decide)) (fun c_111 => ?_)
          refine lv_aload_n C.1 C.2.1 dX12_execute_114 rfl (lv_at hl 0 rfl) ?_
          refine lv_iconst (v := 1) C.1 C.2.1 dX12_execute_115 (by decide) ?_
          refine r_vi C hw (k12_fails hF (mo := mo) (U := (mI (mI (mI (mI (mR (mI U 9 (nI cm)) 6 cx) 7 (nI t)) 4 0) 5 (nI t)) 6 (bI true))) (X := X) 1) ml_X12_90 yf_X12_fails 0 rfl rfl (As := [.int 1]) rfl rfl ⟨Nat.le_of_ble_eq_true rfl, Nat.le_of_ble_eq_true rfl⟩ ⟨Nat.le_of_ble_eq_true rfl, Nat.le_of_ble_eq_true rfl⟩ hl.1 (Nat.le_of_ble_eq_true rfl) dX12_execute_116 (fun r_116 _ H locs hp_116 hw => ?_)
          obtain rfl : r_116 = 0 := hp_116
          replace hw : WH G s (moW G mo (mI (mI (mI (mI (mI (mR (mI U 9 (nI cm)) 6 cx) 7 (nI t)) 4 0) 5 (nI t)) 6 (bI true)) 2 1) ++ X) H locs := hw
          have hz : exM U n h = (mI (exV U t true cm cx (nI t)) 2 1, 0) := by rw [exM, if_pos hw2.symm, hx]
          exact r_iret C hw rfl rfl () (by rw [hz]) (by rw [hz] <;> rfl) (Nat.le_of_ble_eq_true rfl) (Nat.le_of_ble_eq_true rfl) dX12_execute_119
    · obtain rfl : w = false := bI_eq0.mp c_23
      replace hw : WH G s (moW G mo (mI (mI (mR (mI U 9 (nI cm)) 6 cx) 5 (nI t)) 6 (bI false)) ++ X) H locs := hw
      refine lv_aload_n C.1 C.2.1 dX12_execute_26 rfl (lv_at hl 0 rfl) ?_
      refine lv_iconst (v := 0) C.1 C.2.1 dX12_execute_27 (by decide) ?_
      refine r_vi C hw (k12_behind hF (mo := mo) (U := (mI (mI (mR (mI U 9 (nI cm)) 6 cx) 5 (nI t)) 6 (bI false))) (X := X) (t := t) rfl (n := n) hn1 hn (by omega) (k := 0) (by omega)) ml_X12_196 yf_X12_behind 0 rfl rfl (As := [.int 0]) rfl rfl ⟨Nat.le_of_ble_eq_true rfl, Nat.le_of_ble_eq_true rfl⟩ ⟨Nat.le_of_ble_eq_true rfl, Nat.le_of_ble_eq_true rfl⟩ hl.1 (Nat.le_of_ble_eq_true rfl) dX12_execute_28 (fun r_28 _ H locs hp_28 hw => ?_)
      obtain rfl : r_28 = beC U n t 0 := hp_28
      replace hw : WH G s (moW G mo (mI (mI (mR (mI U 9 (nI cm)) 6 cx) 5 (nI t)) 6 (bI false)) ++ X) H locs := hw
      refine lv_bipush (v := 59) C.1 C.2.1 dX12_execute_31 (by decide) ?_
      refine lv_icmp_ne (tgt := 53) C.1 C.2.1 dX12_execute_33 (by decide) (fun c_33 => ?_) (fun c_33 => ?_)
      · have hx : exP U n = ((t, false), cm, cx) := by rw [← h5, rdA_s (fun q => c_33 q.2)]
        refine w_join (σ := Bool) G (pc1 := 77) (fun w2 => w2 = exB U n) (fun w2 => moW G mo (mI (mI (mR (mI U 9 (nI cm)) 6 cx) 5 (nI t)) 6 (bI false)) ++ X) (fun w2 => 0) (fun w2 => 0) (fun w2 => [(0, .ref (mo 0))]) (fun w2 => [.int (bI w2), .ref (mo 0)]) 2 (fun cont77 => ?_) ?_
        · refine lv_aload_n C.1 C.2.1 dX12_execute_53 rfl (lv_at hl 0 rfl) ?_
          refine lv_aload_n C.1 C.2.1 dX12_execute_54 rfl (lv_at hl 0 rfl) ?_
          refine r_get C hw 0 rfl rfl in_X12 12 (by decide) fl_X12_192 rfl (v := .int (bI false)) rfl dX12_execute_55 ?_
          refine lv_if_ne (tgt := 72) C.1 C.2.1 dX12_execute_58 (by decide) (fun c_58 => absurd (by decide) c_58) (fun c_58 => ?_)
          refine lv_aload_n C.1 C.2.1 dX12_execute_61 rfl (lv_at hl 0 rfl) ?_
          refine r_get C hw 0 rfl rfl in_X12 11 (by decide) fl_X12_185 rfl (v := .int (nI t)) rfl dX12_execute_62 ?_
          refine lv_aload_n C.1 C.2.1 dX12_execute_65 rfl (lv_at hl 0 rfl) ?_
          refine r_get C hw 0 rfl rfl in_X12 10 (by decide) fl_X12_182 rfl (v := .int (U.1 4)) rfl dX12_execute_66 ?_
          refine r_toe (show _ = nI n from hn1) ?_
          refine lv_icmp_ge (tgt := 76) C.1 C.2.1 dX12_execute_69 (by decide) (fun c_69 => ?_) (fun c_69 => ?_)
          · have hz : ¬ t < n := by rw [nI_leI (by omega) (by omega)] at c_69; omega
            refine lv_iconst (v := 0) C.1 C.2.1 dX12_execute_76 (by decide) ?_
            exact cont77 false (by rw [exB, hx]; simp [hz]) _ _ hw _ (lv_sub hl [0] rfl)
          · have hz : t < n := by rw [nI_leI (by omega) (by omega)] at c_69; omega
            refine lv_iconst (v := 1) C.1 C.2.1 dX12_execute_72 (by decide) ?_
            refine lv_goto (tgt := 77) C.1 C.2.1 dX12_execute_73 (by decide) ?_
            exact cont77 true (by rw [exB, hx]; simp [hz]) _ _ hw _ (lv_sub hl [0] rfl)
        · rintro w2 hw2 H locs hw ls hl
          replace hw : WH G s (moW G mo (mI (mI (mR (mI U 9 (nI cm)) 6 cx) 5 (nI t)) 6 (bI false)) ++ X) H locs := hw
          replace hl : lv_has ls 2 [(0, .ref (mo 0))] := hl
          refine r_put C hw 0 rfl rfl in_X12 tyX12 tyX12_ok nmX12 12 (by decide) fl_X12_192 rfl rfl (bI_nar _) (bI_fit _) (Nat.le_of_ble_eq_true rfl) (w' := moW G mo (mI (mI (mR (mI U 9 (nI cm)) 6 cx) 5 (nI t)) 6 (bI w2)) ++ X) rfl dX12_execute_77 (fun H locs hw => ?_)
          refine lv_aload_n C.1 C.2.1 dX12_execute_80 rfl (lv_at hl 0 rfl) ?_
          refine lv_aload_n C.1 C.2.1 dX12_execute_81 rfl (lv_at hl 0 rfl) ?_
          refine r_get C hw 0 rfl rfl in_X12 12 (by decide) fl_X12_192 rfl (v := .int (bI w2)) rfl dX12_execute_82 ?_
          refine lv_if_eq (tgt := 95) C.1 C.2.1 dX12_execute_85 (by decide) (fun c_85 => ?_) (fun c_85 => ?_)
          · obtain rfl : w2 = false := bI_eq0.mp c_85
            replace hw : WH G s (moW G mo (mI (mI (mR (mI U 9 (nI cm)) 6 cx) 5 (nI t)) 6 (bI false)) ++ X) H locs := hw
            refine lv_aload_n C.1 C.2.1 dX12_execute_95 rfl (lv_at hl 0 rfl) ?_
            refine r_get C hw 0 rfl rfl in_X12 13 (by decide) fl_X12_29 rfl (v := .int (U.1 7)) rfl dX12_execute_96 ?_
            refine r_put C hw 0 rfl rfl in_X12 tyX12 tyX12_ok nmX12 13 (by decide) fl_X12_29 rfl rfl rfl rfl (Nat.le_of_ble_eq_true rfl) (w' := moW G mo (mI (mI (mI (mR (mI U 9 (nI cm)) 6 cx) 7 (U.1 7)) 5 (nI t)) 6 (bI false)) ++ X) rfl dX12_execute_99 (fun H locs hw => ?_)
            refine lv_aload_n C.1 C.2.1 dX12_execute_102 rfl (lv_at hl 0 rfl) ?_
            refine lv_iconst (v := 0) C.1 C.2.1 dX12_execute_103 (by decide) ?_
            refine r_put C hw 0 rfl rfl in_X12 tyX12 tyX12_ok nmX12 10 (by decide) fl_X12_182 rfl rfl rfl rfl (Nat.le_of_ble_eq_true rfl) (w' := moW G mo (mI (mI (mI (mI (mR (mI U 9 (nI cm)) 6 cx) 7 (U.1 7)) 4 0) 5 (nI t)) 6 (bI false)) ++ X) rfl dX12_execute_104 (fun H locs hw => ?_)
            refine lv_aload_n C.1 C.2.1 dX12_execute_107 rfl (lv_at hl 0 rfl) ?_
            refine r_get C hw 0 rfl rfl in_X12 12 (by decide) fl_X12_192 rfl (v := .int (bI false)) rfl dX12_execute_108 ?_
            refine lv_if_eq (tgt := 120) C.1 C.2.1 dX12_execute_111 (by decide) (fun c_111 => ?_) (fun c_111 => absurd (by decide) c_111)
            refine lv_aload_n C.1 C.2.1 dX12_execute_120 rfl (lv_at hl 0 rfl) ?_
            refine r_vv C hw (k12_keep hF (mo := mo) (U := (mI (mI (mI (mI (mR (mI U 9 (nI cm)) 6 cx) 7 (U.1 7)) 4 0) 5 (nI t)) 6 (bI false))) (X := X)) ml_X12_101 yf_X12_keep 0 rfl rfl (As := []) rfl rfl ⟨Nat.le_of_ble_eq_true rfl, Nat.le_of_ble_eq_true rfl⟩ ⟨Nat.le_of_ble_eq_true rfl, Nat.le_of_ble_eq_true rfl⟩ hl.1 (Nat.le_of_ble_eq_true rfl) dX12_execute_121 (fun _ H locs hp_121 hw => ?_)
            replace hw : WH G s (moW G mo (kpU (mI (mI (mI (mI (mR (mI U 9 (nI cm)) 6 cx) 7 (U.1 7)) 4 0) 5 (nI t)) 6 (bI false))) ++ X) H locs := hw
            refine lv_iconst (v := 0) C.1 C.2.1 dX12_execute_124 (by decide) ?_
            refine lv_istore_n (lv' := [(1, .int 0), (0, .ref (mo 0))]) C.1 C.2.1 dX12_execute_125 rfl hl (by decide) rfl (fun ls hl => ?_)
            obtain ⟨V0, hV0⟩ : ∃ V0, V0 = (kpU (mI (mI (mI (mI (mR (mI U 9 (nI cm)) 6 cx) 7 (U.1 7)) 4 0) 5 (nI t)) 6 (bI false))) := ⟨_, rfl⟩
            rw [← hV0] at hw
            refine w_loop (σ := Nat × MV_) G (fun u ⟨k, V⟩ => k ≤ cm ∧ cm < k + u ∧ V.1 9 = nI cm ∧ exO (cm - k) k V ∧ V.1 1 = nI h ∧ exR (cm - k) k V = exR cm 0 V0) (fun ⟨k, V⟩ => moW G mo V ++ X) (fun ⟨k, V⟩ => 0) (fun ⟨k, V⟩ => 0) (fun ⟨k, V⟩ => [(0, .ref (mo 0)), (1, .int (nI k))]) 2 ?_ ?_ (cm + 1) (0, V0) (⟨Nat.zero_le _, by omega, by rw [hV0]; rfl, by rw [hV0, Nat.sub_zero]; have q := hO (hw2.symm); rw [hx] at q; exact q, by rw [hV0]; exact hh1, by rw [Nat.sub_zero]⟩) hw (lv_sub hl [1, 0] rfl)
            · rintro n126 ⟨k, V⟩ ⟨i1, i2, i3, hi4, i5, i6⟩ ih126 H locs hw ls hl
              replace hw : WH G s (moW G mo V ++ X) H locs := hw
              replace hl : lv_has ls 2 [(0, .ref (mo 0)), (1, .int (nI k))] := hl
              refine lv_iload_n C.1 C.2.1 dX12_execute_126 rfl (lv_at hl 1 rfl) ?_
              refine lv_aload_n C.1 C.2.1 dX12_execute_127 rfl (lv_at hl 0 rfl) ?_
              refine r_get C hw 0 rfl rfl in_X12 16 (by decide) fl_X12_213 rfl (v := .int (V.1 9)) rfl dX12_execute_128 ?_
              refine r_toe (show _ = nI cm from i3) ?_
              refine lv_icmp_ge (tgt := 167) C.1 C.2.1 dX12_execute_131 (by decide) (fun c_131 => ?_) (fun c_131 => ?_)
              · have hkc : k = cm := le_T i1 (by omega) c_131
                refine lv_aload_n C.1 C.2.1 dX12_execute_167 rfl (lv_at hl 0 rfl) ?_
                refine lv_aload_n C.1 C.2.1 dX12_execute_168 rfl (lv_at hl 0 rfl) ?_
                refine r_get C hw 0 rfl rfl in_X12 16 (by decide) fl_X12_213 rfl (v := .int (V.1 9)) rfl dX12_execute_169 ?_
                refine r_toe (show _ = nI cm from i3) ?_
                refine r_vi C hw (k12_ends hF (mo := mo) (U := V) (X := X) (h := h) i5 hh8 (nI cm)) ml_X12_107 yf_X12_ends 0 rfl rfl (As := [.int (nI cm)]) rfl rfl ⟨Nat.le_of_ble_eq_true rfl, Nat.le_of_ble_eq_true rfl⟩ ⟨Nat.le_of_ble_eq_true rfl, Nat.le_of_ble_eq_true rfl⟩ hl.1 (Nat.le_of_ble_eq_true rfl) dX12_execute_172 (fun r_172 _ H locs hp_172 hw => ?_)
                obtain rfl : r_172 = endA V (nI cm) := hp_172
                replace hw : WH G s (moW G mo (endU V h) ++ X) H locs := hw
                have hz : exM U n h = exF h cm (exR cm 0 V0) := by rw [exM, if_neg (by rw [← hw2]; decide), hx, hV0] <;> rfl
                rw [← i6, hkc, Nat.sub_self] at hz
                exact r_iret C hw rfl rfl () (by rw [hz]; rfl) (by rw [hz]; rfl) (Nat.le_of_ble_eq_true rfl) (Nat.le_of_ble_eq_true rfl) dX12_execute_175
              · have hk := le_F i1 (by omega) c_131
                refine lv_aload_n C.1 C.2.1 dX12_execute_134 rfl (lv_at hl 0 rfl) ?_
                refine lv_iload_n C.1 C.2.1 dX12_execute_135 rfl (lv_at hl 1 rfl) ?_
                refine r_vv C hw (k12_does hF (mo := mo) (U := V) (X := X) (exO_ok hi4 hk) (k := k) (by omega) (exO_cl hi4 hk)) ml_X12_235 yf_X12_does 0 rfl rfl (As := [.int (nI k)]) rfl rfl ⟨Nat.le_of_ble_eq_true rfl, Nat.le_of_ble_eq_true rfl⟩ ⟨Nat.le_of_ble_eq_true rfl, Nat.le_of_ble_eq_true rfl⟩ hl.1 (Nat.le_of_ble_eq_true rfl) dX12_execute_136 (fun _ H locs hp_136 hw => ?_)
                replace hw : WH G s (moW G mo (doC V k) ++ X) H locs := hw
                refine lv_aload_n C.1 C.2.1 dX12_execute_139 rfl (lv_at hl 0 rfl) ?_
                refine r_get C hw 0 rfl rfl in_X12 6 (by decide) fl_X12_39 rfl (v := .int ((doC V k).1 2)) rfl dX12_execute_140 ?_
                refine lv_if_le (tgt := 161) C.1 C.2.1 dX12_execute_143 (by decide) (fun c_143 => ?_) (fun c_143 => ?_)
                · refine lv_iinc (v := nI (k + 1)) (lv' := [(1, .int (nI (k + 1))), (0, .ref (mo 0))]) C.1 C.2.1 dX12_execute_161 hl (k := 1) rfl (inc_nI k) (by decide) rfl (fun ls hl => ?_)
                  refine lv_goto (tgt := 126) C.1 C.2.1 dX12_execute_164 (by decide) ?_
                  exact ih126 (k + 1, doC V k) (⟨by omega, by omega, by rw [doC_j (by decide)]; exact i3, exO_s hi4 hk c_143, by rw [doC_j (by decide)]; exact i5, by rw [← i6, exR_s hk c_143]⟩) _ _ hw _ (lv_sub hl [1, 0] rfl)
                · refine lv_aload_n C.1 C.2.1 dX12_execute_146 rfl (lv_at hl 0 rfl) ?_
                  refine lv_iload_n C.1 C.2.1 dX12_execute_147 rfl (lv_at hl 1 rfl) ?_
                  refine r_put C hw 0 rfl rfl in_X12 tyX12 tyX12_ok nmX12 14 (by decide) fl_X12_33 rfl rfl rfl rfl (Nat.le_of_ble_eq_true rfl) (w' := moW G mo (mI (doC V k) 8 (nI k)) ++ X) rfl dX12_execute_148 (fun H locs hw => ?_)
                  refine lv_aload_n C.1 C.2.1 dX12_execute_151 rfl (lv_at hl 0 rfl) ?_
                  refine lv_aload_n C.1 C.2.1 dX12_execute_152 rfl (lv_at hl 0 rfl) ?_
                  refine lv_iconst (v := 2) C.1 C.2.1 dX12_execute_153 (by decide) ?_
                  refine r_vi C hw (k12_fails hF (mo := mo) (U := (mI (doC V k) 8 (nI k))) (X := X) 2) ml_X12_90 yf_X12_fails 0 rfl rfl (As := [.int 2]) rfl rfl ⟨Nat.le_of_ble_eq_true rfl, Nat.le_of_ble_eq_true rfl⟩ ⟨Nat.le_of_ble_eq_true rfl, Nat.le_of_ble_eq_true rfl⟩ hl.1 (Nat.le_of_ble_eq_true rfl) dX12_execute_154 (fun r_154 _ H locs hp_154 hw => ?_)
                  obtain rfl : r_154 = 0 := hp_154
                  replace hw : WH G s (moW G mo (mI (mI (doC V k) 8 (nI k)) 2 2) ++ X) H locs := hw
                  refine r_vi C hw (k12_ends hF (mo := mo) (U := (mI (mI (doC V k) 8 (nI k)) 2 2)) (X := X) (h := h) (by rw [mI_ne (by decide), mI_ne (by decide), doC_j (by decide)]; exact i5) hh8 0) ml_X12_107 yf_X12_ends 0 rfl rfl (As := [.int 0]) rfl rfl ⟨Nat.le_of_ble_eq_true rfl, Nat.le_of_ble_eq_true rfl⟩ ⟨Nat.le_of_ble_eq_true rfl, Nat.le_of_ble_eq_true rfl⟩ hl.1 (Nat.le_of_ble_eq_true rfl) dX12_execute_157 (fun r_157 _ H locs hp_157 hw => ?_)
                  obtain rfl : r_157 = endA (mI (mI (doC V k) 8 (nI k)) 2 2) 0 := hp_157
                  replace hw : WH G s (moW G mo (endU (mI (mI (doC V k) 8 (nI k)) 2 2) h) ++ X) H locs := hw
                  have hz : exM U n h = exF h cm (exR cm 0 V0) := by rw [exM, if_neg (by rw [← hw2]; decide), hx, hV0] <;> rfl
                  rw [← i6, exR_f hk c_143] at hz
                  exact r_iret C hw rfl rfl () (by rw [hz]; rfl) (by rw [hz]; rfl) (Nat.le_of_ble_eq_true rfl) (Nat.le_of_ble_eq_true rfl) dX12_execute_160
            · rintro ⟨k, V⟩ ⟨i1, i2, i3, hi4, i5, i6⟩; omega
          · obtain rfl : w2 = true := bI_ne0.mp c_85
            replace hw : WH G s (moW G mo (mI (mI (mR (mI U 9 (nI cm)) 6 cx) 5 (nI t)) 6 (bI true)) ++ X) H locs := hw
            refine lv_aload_n C.1 C.2.1 dX12_execute_88 rfl (lv_at hl 0 rfl) ?_
            refine r_get C hw 0 rfl rfl in_X12 11 (by decide) fl_X12_185 rfl (v := .int (nI t)) rfl dX12_execute_89 ?_
            refine lv_goto (tgt := 99) C.1 C.2.1 dX12_execute_92 (by decide) ?_
            refine r_put C hw 0 rfl rfl in_X12 tyX12 tyX12_ok nmX12 13 (by decide) fl_X12_29 rfl rfl rfl rfl (Nat.le_of_ble_eq_true rfl) (w' := moW G mo (mI (mI (mI (mR (mI U 9 (nI cm)) 6 cx) 7 (nI t)) 5 (nI t)) 6 (bI true)) ++ X) rfl dX12_execute_99 (fun H locs hw => ?_)
            refine lv_aload_n C.1 C.2.1 dX12_execute_102 rfl (lv_at hl 0 rfl) ?_
            refine lv_iconst (v := 0) C.1 C.2.1 dX12_execute_103 (by decide) ?_
            refine r_put C hw 0 rfl rfl in_X12 tyX12 tyX12_ok nmX12 10 (by decide) fl_X12_182 rfl rfl rfl rfl (Nat.le_of_ble_eq_true rfl) (w' := moW G mo (mI (mI (mI (mI (mR (mI U 9 (nI cm)) 6 cx) 7 (nI t)) 4 0) 5 (nI t)) 6 (bI true)) ++ X) rfl dX12_execute_104 (fun H locs hw => ?_)
            refine lv_aload_n C.1 C.2.1 dX12_execute_107 rfl (lv_at hl 0 rfl) ?_
            refine r_get C hw 0 rfl rfl in_X12 12 (by decide) fl_X12_192 rfl (v := .int (bI true)) rfl dX12_execute_108 ?_
            refine lv_if_eq (tgt := 120) C.1 C.2.1 dX12_execute_111 (by decide) (fun c_111 => absurd c_111 (by decide)) (fun c_111 => ?_)
            refine lv_aload_n C.1 C.2.1 dX12_execute_114 rfl (lv_at hl 0 rfl) ?_
            refine lv_iconst (v := 1) C.1 C.2.1 dX12_execute_115 (by decide) ?_
            refine r_vi C hw (k12_fails hF (mo := mo) (U := (mI (mI (mI (mI (mR (mI U 9 (nI cm)) 6 cx) 7 (nI t)) 4 0) 5 (nI t)) 6 (bI true))) (X := X) 1) ml_X12_90 yf_X12_fails 0 rfl rfl (As := [.int 1]) rfl rfl ⟨Nat.le_of_ble_eq_true rfl, Nat.le_of_ble_eq_true rfl⟩ ⟨Nat.le_of_ble_eq_true rfl, Nat.le_of_ble_eq_true rfl⟩ hl.1 (Nat.le_of_ble_eq_true rfl) dX12_execute_116 (fun r_116 _ H locs hp_116 hw => ?_)
            obtain rfl : r_116 = 0 := hp_116
            replace hw : WH G s (moW G mo (mI (mI (mI (mI (mI (mR (mI U 9 (nI cm)) 6 cx) 7 (nI t)) 4 0) 5 (nI t)) 6 (bI true)) 2 1) ++ X) H locs := hw
            have hz : exM U n h = (mI (exV U t true cm cx (nI t)) 2 1, 0) := by rw [exM, if_pos hw2.symm, hx]
            exact r_iret C hw rfl rfl () (by rw [hz]) (by rw [hz] <;> rfl) (Nat.le_of_ble_eq_true rfl) (Nat.le_of_ble_eq_true rfl) dX12_execute_119
      · have hlt : t < n := be_59 c_33
        have hcl := h3 rfl
        refine lv_aload_n C.1 C.2.1 dX12_execute_36 rfl (lv_at hl 0 rfl) ?_
        refine lv_dup C.1 C.2.1 dX12_execute_37 rfl ?_
        refine r_get C hw 0 rfl rfl in_X12 11 (by decide) fl_X12_185 rfl (v := .int (nI t)) rfl dX12_execute_38 ?_
        refine lv_iconst (v := 1) C.1 C.2.1 dX12_execute_41 (by decide) ?_
        refine lv_iadd C.1 C.2.1 dX12_execute_42 ?_
        refine r_toe (nI_add t 1) ?_
        refine r_put C hw 0 rfl rfl in_X12 tyX12 tyX12_ok nmX12 11 (by decide) fl_X12_185 rfl rfl rfl rfl (Nat.le_of_ble_eq_true rfl) (w' := moW G mo (mI (mI (mR (mI U 9 (nI cm)) 6 cx) 5 (nI (t + 1))) 6 (bI false)) ++ X) rfl dX12_execute_43 (fun H locs hw => ?_)
        refine lv_aload_n C.1 C.2.1 dX12_execute_46 rfl (lv_at hl 0 rfl) ?_
        refine r_vv C hw (k12_readCommand hF (mo := mo) (U := U) (X := X) hn1 hn (t0 := (t + 1)) hlt false (cm := cm) (by omega) cx) ml_X12_232 yf_X12_readCommand 0 rfl rfl (As := []) rfl rfl ⟨Nat.le_of_ble_eq_true rfl, Nat.le_of_ble_eq_true rfl⟩ ⟨Nat.le_of_ble_eq_true rfl, Nat.le_of_ble_eq_true rfl⟩ hl.1 (Nat.le_of_ble_eq_true rfl) dX12_execute_47 (fun _ H locs hp_47 hw => ?_)
        generalize hq_47 : rcM U n (t + 1) false cm cx = rc_47 at hw
        replace hw : WH G s (moW G mo (mI (mI (mR (mI U 9 (nI (rc_47.2.1))) 6 rc_47.2.2) 5 (nI (rc_47.1.1))) 6 (bI rc_47.1.2)) ++ X) H locs := hw
        refine lv_goto (tgt := 19) C.1 C.2.1 dX12_execute_50 (by decide) ?_
        have hmo := @rcM_mo U n (t + 1) cm false cx
        have hle := @rcM_le U n (t + 1) cm false cx hlt
        have hcm1 : (rcM U n (t + 1) false cm cx).2.1 = cm + 1 := rfl
        rw [hq_47] at hmo hle hcm1
        exact ih19 ((rc_47.1.1, rc_47.1.2), rc_47.2.1, rc_47.2.2) (⟨hle, by omega, fun q => by have := hmo.2 q; omega, by omega, by rw [← h5, rdA_g c_33, hq_47]⟩) _ _ hw _ (lv_sub hl [0] rfl)
  · rintro ⟨⟨t, w⟩, cm, cx⟩ ⟨h1, h2, h3, h4, h5⟩; omega

