/-! The model: the pool's end -/
theorem mb_by {f : Nat → Int32} {b : Bool} : ∀ {n j : Nat}, mbF f b n = some j → byF f j = b
  | 0, j, h => by cases h
  | n + 1, j, h => by
    rw [mb_s] at h
    by_cases hb : byF f n = b
    · cases ho : mbF f b n with
      | none => rw [ho, mbs_0 hb] at h; cases h; exact hb
      | some q =>
        rw [ho] at h
        have hq := mb_by ho
        by_cases ha : mdF f b n q ≤ 0
        · rw [mbs_f hb ha] at h; cases h; exact hq
        · rw [mbs_t hb ha] at h; cases h; exact hb
    · rw [mbs_n hb] at h
      exact mb_by h
theorem mR_2 {U : MV_} {k : Nat} {f : Nat → Int32} : (mR U k f).2 k = f := by simp [mR, va_up]
/-- one meeting in the pool -/
def clT (f : Nat → Int32) (x : Int32) (j k : Nat) : Int32 := mmin x (mmin (oF f j 4) (oF f k 4))
def clA (f : Nat → Int32) (x price : Int32) (j k : Nat) : Nat → Int32 := taF (pyF f (wF f j) (wF f k) price (clT f x j k)) (nF f) (max j k) (clT f x j k)
def clS (f : Nat → Int32) (x price : Int32) (j k : Nat) : Nat → Int32 := taF (clA f x price j k) (nF (clA f x price j k)) (min j k) (clT f x j k)
def clR (price : Int32) : Nat → (Nat → Int32) → Int32 → Option (Nat → Int32)
  | 0, f, x => if x ≤ 0 then some f else none
  | v + 1, f, x => if x ≤ 0 then some f else match mbF f true (nF f), mbF f false (nF f) with
    | some j, some k => clR price v (clS f x price j k) (x - clT f x j k)
    | _, _ => none
theorem clR_x {price x : Int32} {f g : Nat → Int32} (h : x ≤ 0) : ∀ {v : Nat}, clR price v f x = some g → f = g
  | 0, e => by rw [clR, if_pos h] at e; exact Option.some.inj e
  | v + 1, e => by rw [clR, if_pos h] at e; exact Option.some.inj e
theorem clR_g {price x : Int32} {f g : Nat → Int32} (h : ¬ x ≤ 0) : ∀ {v : Nat}, clR price v f x = some g → ∃ j k, 1 ≤ v ∧ mbF f true (nF f) = some j ∧ mbF f false (nF f) = some k ∧ clR price (v - 1) (clS f x price j k) (x - clT f x j k) = some g
  | 0, e => by rw [clR, if_neg h] at e; cases e
  | v + 1, e => by
    rw [clR, if_neg h] at e
    split at e
    · rename_i j k h1 h2
      exact ⟨j, k, by omega, h1, h2, e⟩
    · cases e
theorem clA_ok {f : Nat → Int32} (h : okF f) {j k : Nat} (hj : j < nF f) (hk : k < nF f) (x price : Int32) : okF (clA f x price j k) ∧ nF (clA f x price j k) ≤ nF f ∧ nF f ≤ nF (clA f x price j k) + 1 := by
  have hwj := h.2.2.2.2 j hj
  have hwk := h.2.2.2.2 k hk
  have ht := h.2.2.2.1
  have h1 := okF_py (bu := wF f j) (se := wF f k) (pr := price) (q := clT f x j k) h (by omega) (by omega)
  have h2 := okF_ta h1.1 (q := max j k) (by omega) (clT f x j k)
  rw [h1.2] at h2
  exact h2
theorem clS_ok {f : Nat → Int32} (h : okF f) {j k : Nat} (hj : j < nF f) (hk : k < nF f) (hjk : j ≠ k) (x price : Int32) : okF (clS f x price j k) := by
  have h2 := clA_ok h hj hk x price
  exact (okF_ta h2.1 (q := min j k) (by omega) (clT f x j k)).1
def clP (f : Nat → Int32) : Int32 := (poR f (nF f) 99).1
def clV (f : Nat → Int32) : Int32 := if clP f < 0 then 0 else voF f (nF f) (clP f)
def clG (f : Nat → Int32) : Option (Nat → Int32) := clR (clP f) 41 f (clV f)
def clM (U : MV_) : MV_ × Int32 := if U.2 0 4 = 0 then (mI U 2 1, 0) else match clG (U.2 0) with
  | none => (U, 0)
  | some g => (mR U 0 (upd (upd g 1 0) 4 0), clV (U.2 0))
theorem clP_e (f : Nat → Int32) : (poR f (nF f) 99).1 = clP f := by rw [clP]
theorem clV_n {f : Nat → Int32} (h : ¬ clP f < 0) : voF f (nF f) (clP f) = clV f := by rw [clV, if_neg h]
theorem clV_p {f : Nat → Int32} (h : clP f < 0) : 0 = clV f := by rw [clV, if_pos h]
theorem clM_g {U : MV_} {g : Nat → Int32} (h : ¬ U.2 0 4 = 0) (hg : clG (U.2 0) = some g) : clM U = (mR U 0 (upd (upd g 1 0) 4 0), clV (U.2 0)) := by
  rw [clM, if_neg h, hg]

set_option maxHeartbeats 4000000 in
set_option maxRecDepth 100000 in
theorem k12_doClose {l : Launch} {G : Gx} (hF : SF l G) {mo : Nat → Nat} {U : MV_} {X : va_W} (hok : okF (U.2 0)) (hg : ¬ U.2 0 4 = 0 → ∃ g, clG (U.2 0) = some g) : MI l G yX12_doClose cX12_doClose 7 .int 4 0 0 [.ref (mo 0)] (moW G mo U ++ X) (fun r _ => r = (clM U).2) (fun _ : Unit => moW G mo (clM U).1 ++ X) := by
  refine mt_of hF (by decide) (Nat.le_of_ble_eq_true rfl) ?_
  intro p e s m below meth c C hin ls hl H locs hw
  have hl : lv_has ls 7 [(0, .ref (mo 0))] := hl
  refine lv_aload_n C.1 C.2.1 dX12_doClose_0 rfl (lv_at hl 0 rfl) ?_
  refine r_get C hw 0 rfl rfl in_X12 0 (by decide) fl_X12_9 rfl (v := .ref (mo 1)) rfl dX12_doClose_1 ?_
  refine lv_iconst (v := 4) C.1 C.2.1 dX12_doClose_4 (by decide) ?_
  refine r_iald C hw 1 rfl (vp_in_nI (n := 4) (by omega) (by decide)) dX12_doClose_5 ?_
  refine r_toe (show _ = (U.2 0) 4 from congrArg (U.2 0) (nI_clamp (n := 4) (by omega))) ?_
  refine lv_if_ne (tgt := 15) C.1 C.2.1 dX12_doClose_6 (by decide) (fun c_6 => ?_) (fun c_6 => ?_)
  · obtain ⟨g, hg⟩ := hg c_6
    refine lv_aload_n C.1 C.2.1 dX12_doClose_15 rfl (lv_at hl 0 rfl) ?_
    refine r_vi C hw (k12_pool hF (mo := mo) (U := U) (X := X) (n := (nF (U.2 0))) hok.1 hok.2.1) ml_X12_130 yf_X12_pool 0 rfl rfl (As := []) rfl rfl ⟨Nat.le_of_ble_eq_true rfl, Nat.le_of_ble_eq_true rfl⟩ ⟨Nat.le_of_ble_eq_true rfl, Nat.le_of_ble_eq_true rfl⟩ hl.1 (Nat.le_of_ble_eq_true rfl) dX12_doClose_16 (fun r_16 _ H locs hp_16 hw => ?_)
    obtain rfl : r_16 = (poR (U.2 0) (nF (U.2 0)) 99).1 := hp_16
    replace hw : WH G s (moW G mo U ++ X) H locs := hw
    obtain ⟨P, hP⟩ : ∃ z, z = clP (U.2 0) := ⟨_, rfl⟩
    obtain ⟨V, hV⟩ : ∃ z, z = clV (U.2 0) := ⟨_, rfl⟩
    have hg2 : clR P 41 (U.2 0) V = some g := by rw [hP, hV]; exact hg
    refine r_toe ((clP_e (U.2 0)).trans hP.symm) ?_
    refine lv_istore_n (lv' := [(1, .int P), (0, .ref (mo 0))]) C.1 C.2.1 dX12_doClose_19 rfl hl (by decide) rfl (fun ls hl => ?_)
    refine lv_iload_n C.1 C.2.1 dX12_doClose_20 rfl (lv_at hl 0 rfl) ?_
    refine lv_if_ge (tgt := 28) C.1 C.2.1 dX12_doClose_21 (by decide) (fun c_21 => ?_) (fun c_21 => ?_)
    · refine lv_aload_n C.1 C.2.1 dX12_doClose_28 rfl (lv_at hl 1 rfl) ?_
      refine lv_iload_n C.1 C.2.1 dX12_doClose_29 rfl (lv_at hl 0 rfl) ?_
      refine r_vi C hw (k12_volume hF (mo := mo) (U := U) (X := X) (n := (nF (U.2 0))) hok.1 hok.2.1 P) ml_X12_133 yf_X12_volume 0 rfl rfl (As := [.int P]) rfl rfl ⟨Nat.le_of_ble_eq_true rfl, Nat.le_of_ble_eq_true rfl⟩ ⟨Nat.le_of_ble_eq_true rfl, Nat.le_of_ble_eq_true rfl⟩ hl.1 (Nat.le_of_ble_eq_true rfl) dX12_doClose_30 (fun r_30 _ H locs hp_30 hw => ?_)
      obtain rfl : r_30 = voF (U.2 0) (nF (U.2 0)) P := hp_30
      replace hw : WH G s (moW G mo U ++ X) H locs := hw
      refine r_toe (show _ = V by rw [hV]; rw [hP] at c_21 ⊢; exact clV_n (Int32.not_lt.mpr c_21)) ?_
      refine lv_istore_n (lv' := [(2, .int V), (1, .int P), (0, .ref (mo 0))]) C.1 C.2.1 dX12_doClose_33 rfl hl (by decide) rfl (fun ls hl => ?_)
      refine lv_iload_n C.1 C.2.1 dX12_doClose_34 rfl (lv_at hl 0 rfl) ?_
      refine lv_istore_n (lv' := [(3, .int V), (2, .int V), (1, .int P), (0, .ref (mo 0))]) C.1 C.2.1 dX12_doClose_35 rfl hl (by decide) rfl (fun ls hl => ?_)
      refine w_loop (σ := Nat × (Nat → Int32) × Int32) G (fun u ⟨v, f, x⟩ => v < u ∧ okF f ∧ clR P v f x = some g) (fun ⟨v, f, x⟩ => moW G mo (mR U 0 f) ++ X) (fun ⟨v, f, x⟩ => 0) (fun ⟨v, f, x⟩ => 0) (fun ⟨v, f, x⟩ => [(0, .ref (mo 0)), (1, .int P), (2, .int x), (3, .int V)]) 7 ?_ ?_ 42 (41, U.2 0, V) (⟨by omega, hok, hg2⟩) hw (lv_sub hl [3, 2, 1, 0] rfl)
      · rintro n36 ⟨v, f, x⟩ ⟨h1, h3, h4⟩ ih36 H locs hw ls hl
        replace hw : WH G s (moW G mo (mR U 0 f) ++ X) H locs := hw
        replace hl : lv_has ls 7 [(0, .ref (mo 0)), (1, .int P), (2, .int x), (3, .int V)] := hl
        have hn20 := h3.2.1
        have ht6 := h3.2.2.2.1
        refine lv_iload_n C.1 C.2.1 dX12_doClose_36 rfl (lv_at hl 2 rfl) ?_
        refine lv_if_le (tgt := 132) C.1 C.2.1 dX12_doClose_37 (by decide) (fun c_37 => ?_) (fun c_37 => ?_)
        · obtain rfl := clR_x c_37 h4
          refine lv_aload_n C.1 C.2.1 dX12_doClose_132 rfl (lv_at hl 0 rfl) ?_
          refine r_get C hw 0 rfl rfl in_X12 0 (by decide) fl_X12_9 rfl (v := .ref (mo 1)) rfl dX12_doClose_133 ?_
          refine lv_iconst (v := 1) C.1 C.2.1 dX12_doClose_136 (by decide) ?_
          refine lv_iconst (v := 0) C.1 C.2.1 dX12_doClose_137 (by decide) ?_
          refine r_iast C hw 1 rfl (vp_in_nI (n := 1) (by omega) (by decide)) (w' := moW G mo (mR (mR U 0 f) 0 (upd f 1 0)) ++ X) rfl dX12_doClose_138 (fun H locs hw => ?_)
          refine lv_aload_n C.1 C.2.1 dX12_doClose_139 rfl (lv_at hl 0 rfl) ?_
          refine r_get C hw 0 rfl rfl in_X12 0 (by decide) fl_X12_9 rfl (v := .ref (mo 1)) rfl dX12_doClose_140 ?_
          refine lv_iconst (v := 4) C.1 C.2.1 dX12_doClose_143 (by decide) ?_
          refine lv_iconst (v := 0) C.1 C.2.1 dX12_doClose_144 (by decide) ?_
          refine r_iast C hw 1 rfl (vp_in_nI (n := 4) (by omega) (by decide)) (w' := moW G mo (mR (mR (mR U 0 f) 0 (upd f 1 0)) 0 (upd (upd f 1 0) 4 0)) ++ X) rfl dX12_doClose_145 (fun H locs hw => ?_)
          refine lv_iload_n C.1 C.2.1 dX12_doClose_146 rfl (lv_at hl 3 rfl) ?_
          exact r_iret C hw rfl rfl () (by rw [clM_g c_6 hg, hV]) (by rw [clM_g c_6 hg]; simp only [mR_mR]) (Nat.le_of_ble_eq_true rfl) (Nat.le_of_ble_eq_true rfl) dX12_doClose_147
        · obtain ⟨j, k, hv, hbj, hbk, hr⟩ := clR_g c_37 h4
          have hj := mb_lt hbj
          have hk := mb_lt hbk
          have hjk : j ≠ k := fun q => by have b1 := mb_by hbj; have b2 := mb_by hbk; rw [q, b2] at b1; cases b1
          have hwj := h3.2.2.2.2 j hj
          have hwk := h3.2.2.2.2 k hk
          refine lv_aload_n C.1 C.2.1 dX12_doClose_40 rfl (lv_at hl 0 rfl) ?_
          refine lv_iconst (v := 1) C.1 C.2.1 dX12_doClose_41 (by decide) ?_
          refine r_vi C hw (k12_best hF (mo := mo) (U := (mR U 0 f)) (X := X) (n := (nF f)) h3.1 h3.2.1 true) ml_X12_70 yf_X12_best 0 rfl rfl (As := [.int 1]) rfl rfl ⟨Nat.le_of_ble_eq_true rfl, Nat.le_of_ble_eq_true rfl⟩ ⟨Nat.le_of_ble_eq_true rfl, Nat.le_of_ble_eq_true rfl⟩ hl.1 (Nat.le_of_ble_eq_true rfl) dX12_doClose_42 (fun r_42 _ H locs hp_42 hw => ?_)
          obtain rfl : r_42 = oI (mbF f true (nF f)) := hp_42
          replace hw : WH G s (moW G mo (mR U 0 f) ++ X) H locs := hw
          refine r_toe (show _ = nI j from by rw [hbj]; rfl) ?_
          refine lv_istore (lv' := [(4, .int (nI j)), (0, .ref (mo 0)), (1, .int P), (2, .int x), (3, .int V)]) C.1 C.2.1 dX12_doClose_45 hl (by decide) rfl (fun ls hl => ?_)
          refine lv_aload_n C.1 C.2.1 dX12_doClose_47 rfl (lv_at hl 1 rfl) ?_
          refine lv_iconst (v := 0) C.1 C.2.1 dX12_doClose_48 (by decide) ?_
          refine r_vi C hw (k12_best hF (mo := mo) (U := (mR U 0 f)) (X := X) (n := (nF f)) h3.1 h3.2.1 false) ml_X12_70 yf_X12_best 0 rfl rfl (As := [.int 0]) rfl rfl ⟨Nat.le_of_ble_eq_true rfl, Nat.le_of_ble_eq_true rfl⟩ ⟨Nat.le_of_ble_eq_true rfl, Nat.le_of_ble_eq_true rfl⟩ hl.1 (Nat.le_of_ble_eq_true rfl) dX12_doClose_49 (fun r_49 _ H locs hp_49 hw => ?_)
          obtain rfl : r_49 = oI (mbF f false (nF f)) := hp_49
          replace hw : WH G s (moW G mo (mR U 0 f) ++ X) H locs := hw
          refine r_toe (show _ = nI k from by rw [hbk]; rfl) ?_
          refine lv_istore (lv' := [(5, .int (nI k)), (4, .int (nI j)), (0, .ref (mo 0)), (1, .int P), (2, .int x), (3, .int V)]) C.1 C.2.1 dX12_doClose_52 hl (by decide) rfl (fun ls hl => ?_)
          refine lv_iload_n C.1 C.2.1 dX12_doClose_54 rfl (lv_at hl 4 rfl) ?_
          refine lv_aload_n C.1 C.2.1 dX12_doClose_55 rfl (lv_at hl 2 rfl) ?_
          refine lv_iload C.1 C.2.1 dX12_doClose_56 (lv_at hl 1 rfl) ?_
          refine lv_iconst (v := 4) C.1 C.2.1 dX12_doClose_58 (by decide) ?_
          refine r_vi C hw (k12_of hF (mo := mo) (U := (mR U 0 f)) (X := X) (i := j) (k := 4) (by omega) (by omega)) ml_X12_55 yf_X12_of 0 rfl rfl (As := [.int (nI j), .int 4]) rfl rfl ⟨Nat.le_of_ble_eq_true rfl, Nat.le_of_ble_eq_true rfl⟩ ⟨Nat.le_of_ble_eq_true rfl, Nat.le_of_ble_eq_true rfl⟩ hl.1 (Nat.le_of_ble_eq_true rfl) dX12_doClose_59 (fun r_59 _ H locs hp_59 hw => ?_)
          obtain rfl : r_59 = oF f j 4 := hp_59
          replace hw : WH G s (moW G mo (mR U 0 f) ++ X) H locs := hw
          refine lv_aload_n C.1 C.2.1 dX12_doClose_62 rfl (lv_at hl 2 rfl) ?_
          refine lv_iload C.1 C.2.1 dX12_doClose_63 (lv_at hl 0 rfl) ?_
          refine lv_iconst (v := 4) C.1 C.2.1 dX12_doClose_65 (by decide) ?_
          refine r_vi C hw (k12_of hF (mo := mo) (U := (mR U 0 f)) (X := X) (i := k) (k := 4) (by omega) (by omega)) ml_X12_55 yf_X12_of 0 rfl rfl (As := [.int (nI k), .int 4]) rfl rfl ⟨Nat.le_of_ble_eq_true rfl, Nat.le_of_ble_eq_true rfl⟩ ⟨Nat.le_of_ble_eq_true rfl, Nat.le_of_ble_eq_true rfl⟩ hl.1 (Nat.le_of_ble_eq_true rfl) dX12_doClose_66 (fun r_66 _ H locs hp_66 hw => ?_)
          obtain rfl : r_66 = oF f k 4 := hp_66
          replace hw : WH G s (moW G mo (mR U 0 f) ++ X) H locs := hw
          refine r_mmin C ml_X12_74 hl.1 (Nat.le_of_ble_eq_true rfl) (Nat.le_of_ble_eq_true rfl) (Nat.le_of_ble_eq_true rfl) (Nat.le_of_ble_eq_true rfl) dX12_doClose_69 ?_
          refine r_mmin C ml_X12_74 hl.1 (Nat.le_of_ble_eq_true rfl) (Nat.le_of_ble_eq_true rfl) (Nat.le_of_ble_eq_true rfl) (Nat.le_of_ble_eq_true rfl) dX12_doClose_72 ?_
          refine r_toe (show _ = clT f x j k from rfl) ?_
          refine lv_istore (lv' := [(6, .int (clT f x j k)), (5, .int (nI k)), (4, .int (nI j)), (0, .ref (mo 0)), (1, .int P), (2, .int x), (3, .int V)]) C.1 C.2.1 dX12_doClose_75 hl (by decide) rfl (fun ls hl => ?_)
          refine lv_aload_n C.1 C.2.1 dX12_doClose_77 rfl (lv_at hl 3 rfl) ?_
          refine lv_aload_n C.1 C.2.1 dX12_doClose_78 rfl (lv_at hl 3 rfl) ?_
          refine lv_iload C.1 C.2.1 dX12_doClose_79 (lv_at hl 2 rfl) ?_
          refine lv_iconst (v := 1) C.1 C.2.1 dX12_doClose_81 (by decide) ?_
          refine r_vi C hw (k12_of hF (mo := mo) (U := (mR U 0 f)) (X := X) (i := j) (k := 1) (by omega) (by omega)) ml_X12_55 yf_X12_of 0 rfl rfl (As := [.int (nI j), .int 1]) rfl rfl ⟨Nat.le_of_ble_eq_true rfl, Nat.le_of_ble_eq_true rfl⟩ ⟨Nat.le_of_ble_eq_true rfl, Nat.le_of_ble_eq_true rfl⟩ hl.1 (Nat.le_of_ble_eq_true rfl) dX12_doClose_82 (fun r_82 _ H locs hp_82 hw => ?_)
          obtain rfl : r_82 = oF f j 1 := hp_82
          replace hw : WH G s (moW G mo (mR U 0 f) ++ X) H locs := hw
          refine r_toe (show _ = nI (wF f j) from hwj.1) ?_
          refine lv_aload_n C.1 C.2.1 dX12_doClose_85 rfl (lv_at hl 3 rfl) ?_
          refine lv_iload C.1 C.2.1 dX12_doClose_86 (lv_at hl 1 rfl) ?_
          refine lv_iconst (v := 1) C.1 C.2.1 dX12_doClose_88 (by decide) ?_
          refine r_vi C hw (k12_of hF (mo := mo) (U := (mR U 0 f)) (X := X) (i := k) (k := 1) (by omega) (by omega)) ml_X12_55 yf_X12_of 0 rfl rfl (As := [.int (nI k), .int 1]) rfl rfl ⟨Nat.le_of_ble_eq_true rfl, Nat.le_of_ble_eq_true rfl⟩ ⟨Nat.le_of_ble_eq_true rfl, Nat.le_of_ble_eq_true rfl⟩ hl.1 (Nat.le_of_ble_eq_true rfl) dX12_doClose_89 (fun r_89 _ H locs hp_89 hw => ?_)
          obtain rfl : r_89 = oF f k 1 := hp_89
          replace hw : WH G s (moW G mo (mR U 0 f) ++ X) H locs := hw
          refine r_toe (show _ = nI (wF f k) from hwk.1) ?_
          refine lv_iload_n C.1 C.2.1 dX12_doClose_92 rfl (lv_at hl 4 rfl) ?_
          refine lv_iload C.1 C.2.1 dX12_doClose_93 (lv_at hl 0 rfl) ?_
          refine r_vv C hw (k12_pays hF (mo := mo) (U := (mR U 0 f)) (X := X) (bu := (wF f j)) (se := (wF f k)) (by omega) (by omega) P (clT f x j k)) ml_X12_79 yf_X12_pays 0 rfl rfl (As := [.int (nI (wF f j)), .int (nI (wF f k)), .int P, .int (clT f x j k)]) rfl rfl ⟨Nat.le_of_ble_eq_true rfl, Nat.le_of_ble_eq_true rfl⟩ ⟨Nat.le_of_ble_eq_true rfl, Nat.le_of_ble_eq_true rfl⟩ hl.1 (Nat.le_of_ble_eq_true rfl) dX12_doClose_95 (fun _ H locs hp_95 hw => ?_)
          replace hw : WH G s (moW G mo (mR (mR U 0 f) 0 (pyF f (wF f j) (wF f k) P (clT f x j k))) ++ X) H locs := hw
          refine lv_aload_n C.1 C.2.1 dX12_doClose_98 rfl (lv_at hl 3 rfl) ?_
          refine lv_iload C.1 C.2.1 dX12_doClose_99 (lv_at hl 2 rfl) ?_
          refine lv_iload C.1 C.2.1 dX12_doClose_101 (lv_at hl 1 rfl) ?_
          refine r_mmax C ml_X12_136 hl.1 (Nat.le_of_ble_eq_true rfl) (Nat.le_of_ble_eq_true rfl) (Nat.le_of_ble_eq_true rfl) (Nat.le_of_ble_eq_true rfl) dX12_doClose_103 ?_
          refine r_toe (show _ = nI (max j k) from mmax_nI (by omega) (by omega)) ?_
          refine lv_iload C.1 C.2.1 dX12_doClose_106 (lv_at hl 0 rfl) ?_
          refine r_vv C hw (k12_takes hF (mo := mo) (U := (mR (mR U 0 f) 0 (pyF f (wF f j) (wF f k) P (clT f x j k)))) (X := X) (n := (nF f)) (by rw [mR_2, py_lo (by omega)]; exact h3.1) h3.2.1 (q := (max j k)) (by omega) (clT f x j k)) ml_X12_83 yf_X12_takes 0 rfl rfl (As := [.int (nI (max j k)), .int (clT f x j k)]) rfl rfl ⟨Nat.le_of_ble_eq_true rfl, Nat.le_of_ble_eq_true rfl⟩ ⟨Nat.le_of_ble_eq_true rfl, Nat.le_of_ble_eq_true rfl⟩ hl.1 (Nat.le_of_ble_eq_true rfl) dX12_doClose_108 (fun _ H locs hp_108 hw => ?_)
          rw [mR_2] at hw
          replace hw : WH G s (moW G mo (mR (mR (mR U 0 f) 0 (pyF f (wF f j) (wF f k) P (clT f x j k))) 0 (taF (pyF f (wF f j) (wF f k) P (clT f x j k)) (nF f) (max j k) (clT f x j k))) ++ X) H locs := hw
          have hm : (taF (pyF f (wF f j) (wF f k) P (clT f x j k)) (nF f) (max j k) (clT f x j k)) = clA f x P j k := rfl
          rw [hm, mR_mR, mR_mR] at hw
          have hA := clA_ok h3 hj hk x P
          have hS := clS_ok h3 hj hk hjk x P
          have hs1 : clS f x P j k = taF (clA f x P j k) (nF (clA f x P j k)) (min j k) (clT f x j k) := rfl
          clear hm
          generalize clA f x P j k = a1 at hw hA hs1
          replace hw : WH G s (moW G mo (mR U 0 a1) ++ X) H locs := hw
          refine lv_aload_n C.1 C.2.1 dX12_doClose_111 rfl (lv_at hl 3 rfl) ?_
          refine lv_iload C.1 C.2.1 dX12_doClose_112 (lv_at hl 2 rfl) ?_
          refine lv_iload C.1 C.2.1 dX12_doClose_114 (lv_at hl 1 rfl) ?_
          refine r_mmin C ml_X12_74 hl.1 (Nat.le_of_ble_eq_true rfl) (Nat.le_of_ble_eq_true rfl) (Nat.le_of_ble_eq_true rfl) (Nat.le_of_ble_eq_true rfl) dX12_doClose_116 ?_
          refine r_toe (show _ = nI (min j k) from mmin_nI (by omega) (by omega)) ?_
          refine lv_iload C.1 C.2.1 dX12_doClose_119 (lv_at hl 0 rfl) ?_
          refine r_vv C hw (k12_takes hF (mo := mo) (U := (mR U 0 a1)) (X := X) (n := (nF a1)) (by rw [mR_2]; exact hA.1.1) hA.1.2.1 (q := (min j k)) (by omega) (clT f x j k)) ml_X12_83 yf_X12_takes 0 rfl rfl (As := [.int (nI (min j k)), .int (clT f x j k)]) rfl rfl ⟨Nat.le_of_ble_eq_true rfl, Nat.le_of_ble_eq_true rfl⟩ ⟨Nat.le_of_ble_eq_true rfl, Nat.le_of_ble_eq_true rfl⟩ hl.1 (Nat.le_of_ble_eq_true rfl) dX12_doClose_121 (fun _ H locs hp_121 hw => ?_)
          rw [mR_2] at hw
          replace hw : WH G s (moW G mo (mR (mR U 0 a1) 0 (taF a1 (nF a1) (min j k) (clT f x j k))) ++ X) H locs := hw
          have hm : (taF a1 (nF a1) (min j k) (clT f x j k)) = clS f x P j k := hs1.symm
          rw [hm, mR_mR] at hw
          clear hm
          generalize clS f x P j k = g2 at hw hS hr
          replace hw : WH G s (moW G mo (mR U 0 g2) ++ X) H locs := hw
          refine lv_iload_n C.1 C.2.1 dX12_doClose_124 rfl (lv_at hl 5 rfl) ?_
          refine lv_iload C.1 C.2.1 dX12_doClose_125 (lv_at hl 0 rfl) ?_
          refine lv_isub C.1 C.2.1 dX12_doClose_127 ?_
          refine lv_istore_n (lv' := [(2, .int (x - (clT f x j k))), (6, .int (clT f x j k)), (5, .int (nI k)), (4, .int (nI j)), (0, .ref (mo 0)), (1, .int P), (3, .int V)]) C.1 C.2.1 dX12_doClose_128 rfl hl (by decide) rfl (fun ls hl => ?_)
          refine lv_goto (tgt := 36) C.1 C.2.1 dX12_doClose_129 (by decide) ?_
          exact ih36 (v - 1, g2, x - clT f x j k) (⟨by omega, hS, hr⟩) _ _ hw _ (lv_sub hl [4, 5, 0, 6] rfl)
      · rintro ⟨v, f, x⟩ ⟨h1, h3, h4⟩; omega
    · refine lv_iconst (v := 0) C.1 C.2.1 dX12_doClose_24 (by decide) ?_
      refine r_toe (show _ = V by rw [hV]; rw [hP] at c_21; exact clV_p (Int32.not_le.mp c_21)) ?_
      refine lv_goto (tgt := 33) C.1 C.2.1 dX12_doClose_25 (by decide) ?_
      refine lv_istore_n (lv' := [(2, .int V), (1, .int P), (0, .ref (mo 0))]) C.1 C.2.1 dX12_doClose_33 rfl hl (by decide) rfl (fun ls hl => ?_)
      refine lv_iload_n C.1 C.2.1 dX12_doClose_34 rfl (lv_at hl 0 rfl) ?_
      refine lv_istore_n (lv' := [(3, .int V), (2, .int V), (1, .int P), (0, .ref (mo 0))]) C.1 C.2.1 dX12_doClose_35 rfl hl (by decide) rfl (fun ls hl => ?_)
      refine w_loop (σ := Nat × (Nat → Int32) × Int32) G (fun u ⟨v, f, x⟩ => v < u ∧ okF f ∧ clR P v f x = some g) (fun ⟨v, f, x⟩ => moW G mo (mR U 0 f) ++ X) (fun ⟨v, f, x⟩ => 0) (fun ⟨v, f, x⟩ => 0) (fun ⟨v, f, x⟩ => [(0, .ref (mo 0)), (1, .int P), (2, .int x), (3, .int V)]) 7 ?_ ?_ 42 (41, U.2 0, V) (⟨by omega, hok, hg2⟩) hw (lv_sub hl [3, 2, 1, 0] rfl)
      · rintro n36 ⟨v, f, x⟩ ⟨h1, h3, h4⟩ ih36 H locs hw ls hl
        replace hw : WH G s (moW G mo (mR U 0 f) ++ X) H locs := hw
        replace hl : lv_has ls 7 [(0, .ref (mo 0)), (1, .int P), (2, .int x), (3, .int V)] := hl
        have hn20 := h3.2.1
        have ht6 := h3.2.2.2.1
        refine lv_iload_n C.1 C.2.1 dX12_doClose_36 rfl (lv_at hl 2 rfl) ?_
        refine lv_if_le (tgt := 132) C.1 C.2.1 dX12_doClose_37 (by decide) (fun c_37 => ?_) (fun c_37 => ?_)
        · obtain rfl := clR_x c_37 h4
          refine lv_aload_n C.1 C.2.1 dX12_doClose_132 rfl (lv_at hl 0 rfl) ?_
          refine r_get C hw 0 rfl rfl in_X12 0 (by decide) fl_X12_9 rfl (v := .ref (mo 1)) rfl dX12_doClose_133 ?_
          refine lv_iconst (v := 1) C.1 C.2.1 dX12_doClose_136 (by decide) ?_
          refine lv_iconst (v := 0) C.1 C.2.1 dX12_doClose_137 (by decide) ?_
          refine r_iast C hw 1 rfl (vp_in_nI (n := 1) (by omega) (by decide)) (w' := moW G mo (mR (mR U 0 f) 0 (upd f 1 0)) ++ X) rfl dX12_doClose_138 (fun H locs hw => ?_)
          refine lv_aload_n C.1 C.2.1 dX12_doClose_139 rfl (lv_at hl 0 rfl) ?_
          refine r_get C hw 0 rfl rfl in_X12 0 (by decide) fl_X12_9 rfl (v := .ref (mo 1)) rfl dX12_doClose_140 ?_
          refine lv_iconst (v := 4) C.1 C.2.1 dX12_doClose_143 (by decide) ?_
          refine lv_iconst (v := 0) C.1 C.2.1 dX12_doClose_144 (by decide) ?_
          refine r_iast C hw 1 rfl (vp_in_nI (n := 4) (by omega) (by decide)) (w' := moW G mo (mR (mR (mR U 0 f) 0 (upd f 1 0)) 0 (upd (upd f 1 0) 4 0)) ++ X) rfl dX12_doClose_145 (fun H locs hw => ?_)
          refine lv_iload_n C.1 C.2.1 dX12_doClose_146 rfl (lv_at hl 3 rfl) ?_
          exact r_iret C hw rfl rfl () (by rw [clM_g c_6 hg, hV]) (by rw [clM_g c_6 hg]; simp only [mR_mR]) (Nat.le_of_ble_eq_true rfl) (Nat.le_of_ble_eq_true rfl) dX12_doClose_147
        · obtain ⟨j, k, hv, hbj, hbk, hr⟩ := clR_g c_37 h4
          have hj := mb_lt hbj
          have hk := mb_lt hbk
          have hjk : j ≠ k := fun q => by have b1 := mb_by hbj; have b2 := mb_by hbk; rw [q, b2] at b1; cases b1
          have hwj := h3.2.2.2.2 j hj
          have hwk := h3.2.2.2.2 k hk
          refine lv_aload_n C.1 C.2.1 dX12_doClose_40 rfl (lv_at hl 0 rfl) ?_
          refine lv_iconst (v := 1) C.1 C.2.1 dX12_doClose_41 (by decide) ?_
          refine r_vi C hw (k12_best hF (mo := mo) (U := (mR U 0 f)) (X := X) (n := (nF f)) h3.1 h3.2.1 true) ml_X12_70 yf_X12_best 0 rfl rfl (As := [.int 1]) rfl rfl ⟨Nat.le_of_ble_eq_true rfl, Nat.le_of_ble_eq_true rfl⟩ ⟨Nat.le_of_ble_eq_true rfl, Nat.le_of_ble_eq_true rfl⟩ hl.1 (Nat.le_of_ble_eq_true rfl) dX12_doClose_42 (fun r_42 _ H locs hp_42 hw => ?_)
          obtain rfl : r_42 = oI (mbF f true (nF f)) := hp_42
          replace hw : WH G s (moW G mo (mR U 0 f) ++ X) H locs := hw
          refine r_toe (show _ = nI j from by rw [hbj]; rfl) ?_
          refine lv_istore (lv' := [(4, .int (nI j)), (0, .ref (mo 0)), (1, .int P), (2, .int x), (3, .int V)]) C.1 C.2.1 dX12_doClose_45 hl (by decide) rfl (fun ls hl => ?_)
          refine lv_aload_n C.1 C.2.1 dX12_doClose_47 rfl (lv_at hl 1 rfl) ?_
          refine lv_iconst (v := 0) C.1 C.2.1 dX12_doClose_48 (by decide) ?_
          refine r_vi C hw (k12_best hF (mo := mo) (U := (mR U 0 f)) (X := X) (n := (nF f)) h3.1 h3.2.1 false) ml_X12_70 yf_X12_best 0 rfl rfl (As := [.int 0]) rfl rfl ⟨Nat.le_of_ble_eq_true rfl, Nat.le_of_ble_eq_true rfl⟩ ⟨Nat.le_of_ble_eq_true rfl, Nat.le_of_ble_eq_true rfl⟩ hl.1 (Nat.le_of_ble_eq_true rfl) dX12_doClose_49 (fun r_49 _ H locs hp_49 hw => ?_)
          obtain rfl : r_49 = oI (mbF f false (nF f)) := hp_49
          replace hw : WH G s (moW G mo (mR U 0 f) ++ X) H locs := hw
          refine r_toe (show _ = nI k from by rw [hbk]; rfl) ?_
          refine lv_istore (lv' := [(5, .int (nI k)), (4, .int (nI j)), (0, .ref (mo 0)), (1, .int P), (2, .int x), (3, .int V)]) C.1 C.2.1 dX12_doClose_52 hl (by decide) rfl (fun ls hl => ?_)
          refine lv_iload_n C.1 C.2.1 dX12_doClose_54 rfl (lv_at hl 4 rfl) ?_
          refine lv_aload_n C.1 C.2.1 dX12_doClose_55 rfl (lv_at hl 2 rfl) ?_
          refine lv_iload C.1 C.2.1 dX12_doClose_56 (lv_at hl 1 rfl) ?_
          refine lv_iconst (v := 4) C.1 C.2.1 dX12_doClose_58 (by decide) ?_
          refine r_vi C hw (k12_of hF (mo := mo) (U := (mR U 0 f)) (X := X) (i := j) (k := 4) (by omega) (by omega)) ml_X12_55 yf_X12_of 0 rfl rfl (As := [.int (nI j), .int 4]) rfl rfl ⟨Nat.le_of_ble_eq_true rfl, Nat.le_of_ble_eq_true rfl⟩ ⟨Nat.le_of_ble_eq_true rfl, Nat.le_of_ble_eq_true rfl⟩ hl.1 (Nat.le_of_ble_eq_true rfl) dX12_doClose_59 (fun r_59 _ H locs hp_59 hw => ?_)
          obtain rfl : r_59 = oF f j 4 := hp_59
          replace hw : WH G s (moW G mo (mR U 0 f) ++ X) H locs := hw
          refine lv_aload_n C.1 C.2.1 dX12_doClose_62 rfl (lv_at hl 2 rfl) ?_
          refine lv_iload C.1 C.2.1 dX12_doClose_63 (lv_at hl 0 rfl) ?_
          refine lv_iconst (v := 4) C.1 C.2.1 dX12_doClose_65 (by decide) ?_
          refine r_vi C hw (k12_of hF (mo := mo) (U := (mR U 0 f)) (X := X) (i := k) (k := 4) (by omega) (by omega)) ml_X12_55 yf_X12_of 0 rfl rfl (As := [.int (nI k), .int 4]) rfl rfl ⟨Nat.le_of_ble_eq_true rfl, Nat.le_of_ble_eq_true rfl⟩ ⟨Nat.le_of_ble_eq_true rfl, Nat.le_of_ble_eq_true rfl⟩ hl.1 (Nat.le_of_ble_eq_true rfl) dX12_doClose_66 (fun r_66 _ H locs hp_66 hw => ?_)
          obtain rfl : r_66 = oF f k 4 := hp_66
          replace hw : WH G s (moW G mo (mR U 0 f) ++ X) H locs := hw
          refine r_mmin C ml_X12_74 hl.1 (Nat.le_of_ble_eq_true rfl) (Nat.le_of_ble_eq_true rfl) (Nat.le_of_ble_eq_true rfl) (Nat.le_of_ble_eq_true rfl) dX12_doClose_69 ?_
          refine r_mmin C ml_X12_74 hl.1 (Nat.le_of_ble_eq_true rfl) (Nat.le_of_ble_eq_true rfl) (Nat.le_of_ble_eq_true rfl) (Nat.le_of_ble_eq_true rfl) dX12_doClose_72 ?_
          refine r_toe (show _ = clT f x j k from rfl) ?_
          refine lv_istore (lv' := [(6, .int (clT f x j k)), (5, .int (nI k)), (4, .int (nI j)), (0, .ref (mo 0)), (1, .int P), (2, .int x), (3, .int V)]) C.1 C.2.1 dX12_doClose_75 hl (by decide) rfl (fun ls hl => ?_)
          refine lv_aload_n C.1 C.2.1 dX12_doClose_77 rfl (lv_at hl 3 rfl) ?_
          refine lv_aload_n C.1 C.2.1 dX12_doClose_78 rfl (lv_at hl 3 rfl) ?_
          refine lv_iload C.1 C.2.1 dX12_doClose_79 (lv_at hl 2 rfl) ?_
          refine lv_iconst (v := 1) C.1 C.2.1 dX12_doClose_81 (by decide) ?_
          refine r_vi C hw (k12_of hF (mo := mo) (U := (mR U 0 f)) (X := X) (i := j) (k := 1) (by omega) (by omega)) ml_X12_55 yf_X12_of 0 rfl rfl (As := [.int (nI j), .int 1]) rfl rfl ⟨Nat.le_of_ble_eq_true rfl, Nat.le_of_ble_eq_true rfl⟩ ⟨Nat.le_of_ble_eq_true rfl, Nat.le_of_ble_eq_true rfl⟩ hl.1 (Nat.le_of_ble_eq_true rfl) dX12_doClose_82 (fun r_82 _ H locs hp_82 hw => ?_)
          obtain rfl : r_82 = oF f j 1 := hp_82
          replace hw : WH G s (moW G mo (mR U 0 f) ++ X) H locs := hw
          refine r_toe (show _ = nI (wF f j) from hwj.1) ?_
          refine lv_aload_n C.1 C.2.1 dX12_doClose_85 rfl (lv_at hl 3 rfl) ?_
          refine lv_iload C.1 C.2.1 dX12_doClose_86 (lv_at hl 1 rfl) ?_
          refine lv_iconst (v := 1) C.1 C.2.1 dX12_doClose_88 (by decide) ?_
          refine r_vi C hw (k12_of hF (mo := mo) (U := (mR U 0 f)) (X := X) (i := k) (k := 1) (by omega) (by omega)) ml_X12_55 yf_X12_of 0 rfl rfl (As := [.int (nI k), .int 1]) rfl rfl ⟨Nat.le_of_ble_eq_true rfl, Nat.le_of_ble_eq_true rfl⟩ ⟨Nat.le_of_ble_eq_true rfl, Nat.le_of_ble_eq_true rfl⟩ hl.1 (Nat.le_of_ble_eq_true rfl) dX12_doClose_89 (fun r_89 _ H locs hp_89 hw => ?_)
          obtain rfl : r_89 = oF f k 1 := hp_89
          replace hw : WH G s (moW G mo (mR U 0 f) ++ X) H locs := hw
          refine r_toe (show _ = nI (wF f k) from hwk.1) ?_
          refine lv_iload_n C.1 C.2.1 dX12_doClose_92 rfl (lv_at hl 4 rfl) ?_
          refine lv_iload C.1 C.2.1 dX12_doClose_93 (lv_at hl 0 rfl) ?_
          refine r_vv C hw (k12_pays hF (mo := mo) (U := (mR U 0 f)) (X := X) (bu := (wF f j)) (se := (wF f k)) (by omega) (by omega) P (clT f x j k)) ml_X12_79 yf_X12_pays 0 rfl rfl (As := [.int (nI (wF f j)), .int (nI (wF f k)), .int P, .int (clT f x j k)]) rfl rfl ⟨Nat.le_of_ble_eq_true rfl, Nat.le_of_ble_eq_true rfl⟩ ⟨Nat.le_of_ble_eq_true rfl, Nat.le_of_ble_eq_true rfl⟩ hl.1 (Nat.le_of_ble_eq_true rfl) dX12_doClose_95 (fun _ H locs hp_95 hw => ?_)
          replace hw : WH G s (moW G mo (mR (mR U 0 f) 0 (pyF f (wF f j) (wF f k) P (clT f x j k))) ++ X) H locs := hw
          refine lv_aload_n C.1 C.2.1 dX12_doClose_98 rfl (lv_at hl 3 rfl) ?_
          refine lv_iload C.1 C.2.1 dX12_doClose_99 (lv_at hl 2 rfl) ?_
          refine lv_iload C.1 C.2.1 dX12_doClose_101 (lv_at hl 1 rfl) ?_
          refine r_mmax C ml_X12_136 hl.1 (Nat.le_of_ble_eq_true rfl) (Nat.le_of_ble_eq_true rfl) (Nat.le_of_ble_eq_true rfl) (Nat.le_of_ble_eq_true rfl) dX12_doClose_103 ?_
          refine r_toe (show _ = nI (max j k) from mmax_nI (by omega) (by omega)) ?_
          refine lv_iload C.1 C.2.1 dX12_doClose_106 (lv_at hl 0 rfl) ?_
          refine r_vv C hw (k12_takes hF (mo := mo) (U := (mR (mR U 0 f) 0 (pyF f (wF f j) (wF f k) P (clT f x j k)))) (X := X) (n := (nF f)) (by rw [mR_2, py_lo (by omega)]; exact h3.1) h3.2.1 (q := (max j k)) (by omega) (clT f x j k)) ml_X12_83 yf_X12_takes 0 rfl rfl (As := [.int (nI (max j k)), .int (clT f x j k)]) rfl rfl ⟨Nat.le_of_ble_eq_true rfl, Nat.le_of_ble_eq_true rfl⟩ ⟨Nat.le_of_ble_eq_true rfl, Nat.le_of_ble_eq_true rfl⟩ hl.1 (Nat.le_of_ble_eq_true rfl) dX12_doClose_108 (fun _ H locs hp_108 hw => ?_)
          rw [mR_2] at hw
          replace hw : WH G s (moW G mo (mR (mR (mR U 0 f) 0 (pyF f (wF f j) (wF f k) P (clT f x j k))) 0 (taF (pyF f (wF f j) (wF f k) P (clT f x j k)) (nF f) (max j k) (clT f x j k))) ++ X) H locs := hw
          have hm : (taF (pyF f (wF f j) (wF f k) P (clT f x j k)) (nF f) (max j k) (clT f x j k)) = clA f x P j k := rfl
          rw [hm, mR_mR, mR_mR] at hw
          have hA := clA_ok h3 hj hk x P
          have hS := clS_ok h3 hj hk hjk x P
          have hs1 : clS f x P j k = taF (clA f x P j k) (nF (clA f x P j k)) (min j k) (clT f x j k) := rfl
          clear hm
          generalize clA f x P j k = a1 at hw hA hs1
          replace hw : WH G s (moW G mo (mR U 0 a1) ++ X) H locs := hw
          refine lv_aload_n C.1 C.2.1 dX12_doClose_111 rfl (lv_at hl 3 rfl) ?_
          refine lv_iload C.1 C.2.1 dX12_doClose_112 (lv_at hl 2 rfl) ?_
          refine lv_iload C.1 C.2.1 dX12_doClose_114 (lv_at hl 1 rfl) ?_
          refine r_mmin C ml_X12_74 hl.1 (Nat.le_of_ble_eq_true rfl) (Nat.le_of_ble_eq_true rfl) (Nat.le_of_ble_eq_true rfl) (Nat.le_of_ble_eq_true rfl) dX12_doClose_116 ?_
          refine r_toe (show _ = nI (min j k) from mmin_nI (by omega) (by omega)) ?_
          refine lv_iload C.1 C.2.1 dX12_doClose_119 (lv_at hl 0 rfl) ?_
          refine r_vv C hw (k12_takes hF (mo := mo) (U := (mR U 0 a1)) (X := X) (n := (nF a1)) (by rw [mR_2]; exact hA.1.1) hA.1.2.1 (q := (min j k)) (by omega) (clT f x j k)) ml_X12_83 yf_X12_takes 0 rfl rfl (As := [.int (nI (min j k)), .int (clT f x j k)]) rfl rfl ⟨Nat.le_of_ble_eq_true rfl, Nat.le_of_ble_eq_true rfl⟩ ⟨Nat.le_of_ble_eq_true rfl, Nat.le_of_ble_eq_true rfl⟩ hl.1 (Nat.le_of_ble_eq_true rfl) dX12_doClose_121 (fun _ H locs hp_121 hw => ?_)
          rw [mR_2] at hw
          replace hw : WH G s (moW G mo (mR (mR U 0 a1) 0 (taF a1 (nF a1) (min j k) (clT f x j k))) ++ X) H locs := hw
          have hm : (taF a1 (nF a1) (min j k) (clT f x j k)) = clS f x P j k := hs1.symm
          rw [hm, mR_mR] at hw
          clear hm
          generalize clS f x P j k = g2 at hw hS hr
          replace hw : WH G s (moW G mo (mR U 0 g2) ++ X) H locs := hw
          refine lv_iload_n C.1 C.2.1 dX12_doClose_124 rfl (lv_at hl 5 rfl) ?_
          refine lv_iload C.1 C.2.1 dX12_doClose_125 (lv_at hl 0 rfl) ?_
          refine lv_isub C.1 C.2.1 dX12_doClose_127 ?_
          refine lv_istore_n (lv' := [(2, .int (x - (clT f x j k))), (6, .int (clT f x j k)), (5, .int (nI k)), (4, .int (nI j)), (0, .ref (mo 0)), (1, .int P), (3, .int V)]) C.1 C.2.1 dX12_doClose_128 rfl hl (by decide) rfl (fun ls hl => ?_)
          refine lv_goto (tgt := 36) C.1 C.2.1 dX12_doClose_129 (by decide) ?_
          exact ih36 (v - 1, g2, x - clT f x j k) (⟨by omega, hS, hr⟩) _ _ hw _ (lv_sub hl [4, 5, 0, 6] rfl)
      · rintro ⟨v, f, x⟩ ⟨h1, h3, h4⟩; omega
  · refine lv_aload_n C.1 C.2.1 dX12_doClose_9 rfl (lv_at hl 0 rfl) ?_
    refine lv_iconst (v := 1) C.1 C.2.1 dX12_doClose_10 (by decide) ?_
    refine r_vi C hw (k12_fails hF (mo := mo) (U := U) (X := X) 1) ml_X12_90 yf_X12_fails 0 rfl rfl (As := [.int 1]) rfl rfl ⟨Nat.le_of_ble_eq_true rfl, Nat.le_of_ble_eq_true rfl⟩ ⟨Nat.le_of_ble_eq_true rfl, Nat.le_of_ble_eq_true rfl⟩ hl.1 (Nat.le_of_ble_eq_true rfl) dX12_doClose_11 (fun r_11 _ H locs hp_11 hw => ?_)
    obtain rfl : r_11 = 0 := hp_11
    replace hw : WH G s (moW G mo (mI U 2 1) ++ X) H locs := hw
    exact r_iret C hw rfl rfl () (by rw [clM, if_pos c_6]) (by rw [clM, if_pos c_6]) (Nat.le_of_ble_eq_true rfl) (Nat.le_of_ble_eq_true rfl) dX12_doClose_14

