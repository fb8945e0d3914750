/-! The model: a row's shape, and what its methods keep of it -/
def nF (f : Nat → Int32) : Nat := (f 1).toNatClampNeg
def tF (f : Nat → Int32) : Nat := (f 0).toNatClampNeg
def wF (f : Nat → Int32) (p : Nat) : Nat := (oF f p 1).toNatClampNeg
/-- the counts are counts, the orders' stalls are stalls -/
def okF (f : Nat → Int32) : Prop := f 1 = nI (nF f) ∧ nF f ≤ 20 ∧ f 0 = nI (tF f) ∧ tF f ≤ 6 ∧ ∀ p, p < nF f → oF f p 1 = nI (wF f p) ∧ wF f p < tF f
theorem py_hi {f : Nat → Int32} {bu se : Nat} {pr q : Int32} (hb : bu < 6) (hs : se < 6) {j : Nat} (hj : 21 ≤ j) : pyF f bu se pr q j = f j := by
  unfold pyF
  rw [pk_un (by omega), pk_un (by omega), pk_un (by omega), pk_un (by omega), pk_un (by omega), pk_un (by omega), pk_un (by omega), pk_un (by omega)]
theorem py_lo {f : Nat → Int32} {bu se : Nat} {pr q : Int32} {j : Nat} (hj : j < 5) : pyF f bu se pr q j = f j := by
  unfold pyF
  rw [pk_un (by omega), pk_un (by omega), pk_un (by omega), pk_un (by omega), pk_un (by omega), pk_un (by omega), pk_un (by omega), pk_un (by omega)]
theorem okF_py {f : Nat → Int32} (h : okF f) {bu se : Nat} {pr q : Int32} (hb : bu < 6) (hs : se < 6) : okF (pyF f bu se pr q) ∧ nF (pyF f bu se pr q) = nF f := by
  have e1 : nF (pyF f bu se pr q) = nF f := by unfold nF; rw [py_lo (by omega)]
  have e0 : tF (pyF f bu se pr q) = tF f := by unfold tF; rw [py_lo (by omega)]
  have eo : ∀ p, oF (pyF f bu se pr q) p 1 = oF f p 1 := fun p => py_hi hb hs (by omega)
  refine ⟨⟨by rw [e1, py_lo (by omega)]; exact h.1, by rw [e1]; exact h.2.1, by rw [e0, py_lo (by omega)]; exact h.2.2.1, by rw [e0]; exact h.2.2.2.1, fun p hp => ?_⟩, e1⟩
  rw [e1] at hp
  unfold wF
  rw [eo, e0]
  exact h.2.2.2.2 p hp
theorem dr_lo {f : Nat → Int32} {n q j : Nat} (hj : j < 21 + 6 * q) (h1 : j ≠ 1) : drF f n q j = f j := by
  unfold drF
  rw [pk_cpy_out (Or.inl hj), pk_un h1]
theorem dr_1 {f : Nat → Int32} {n q : Nat} : drF f n q 1 = nI (n - 1) := by
  unfold drF
  rw [pk_cpy_out (Or.inl (by omega)), pk_us]
theorem dr_of {f : Nat → Int32} {n q p k : Nat} (hp : p < n - 1) (hk : k < 6) : oF (drF f n q) p k = if p < q then oF f p k else oF f (p + 1) k := by
  unfold oF
  by_cases h : p < q
  · rw [if_pos h, dr_lo (by omega) (by omega)]
  · rw [if_neg h]
    unfold drF
    rw [pk_cpy_in (by omega) (by omega), pk_un (by omega)]
    congr 1
    omega
theorem okF_dr {f : Nat → Int32} (h : okF f) {q : Nat} (hq : q < nF f) : okF (drF f (nF f) q) ∧ nF (drF f (nF f) q) = nF f - 1 := by
  have hn := h.2.1
  have e1 : nF (drF f (nF f) q) = nF f - 1 := by unfold nF; rw [dr_1]; exact nI_clamp (by unfold nF at hn; omega)
  have e0 : tF (drF f (nF f) q) = tF f := by unfold tF; rw [dr_lo (by omega) (by omega)]
  refine ⟨⟨by rw [e1, dr_1], by omega, by rw [e0, dr_lo (by omega) (by omega)]; exact h.2.2.1, by rw [e0]; exact h.2.2.2.1, fun p hp => ?_⟩, e1⟩
  rw [e1] at hp
  unfold wF
  rw [dr_of hp (by omega), e0]
  split
  · exact h.2.2.2.2 p (by omega)
  · exact h.2.2.2.2 (p + 1) (by omega)
theorem okF_tq {f : Nat → Int32} (h : okF f) (q : Nat) (t : Int32) : okF (tqF f q t) ∧ nF (tqF f q t) = nF f := by
  have e1 : nF (tqF f q t) = nF f := by unfold nF tqF; rw [pk_un (by omega)]
  have e0 : tF (tqF f q t) = tF f := by unfold tF tqF; rw [pk_un (by omega)]
  have eo : ∀ p, oF (tqF f q t) p 1 = oF f p 1 := fun p => by unfold oF tqF; rw [pk_un (by omega)]
  refine ⟨⟨by rw [e1]; unfold tqF; rw [pk_un (by omega)]; exact h.1, by rw [e1]; exact h.2.1, by rw [e0]; unfold tqF; rw [pk_un (by omega)]; exact h.2.2.1, by rw [e0]; exact h.2.2.2.1, fun p hp => ?_⟩, e1⟩
  rw [e1] at hp
  unfold wF
  rw [eo, e0]
  exact h.2.2.2.2 p hp
theorem okF_ta {f : Nat → Int32} (h : okF f) {q : Nat} (hq : q < nF f) (t : Int32) : okF (taF f (nF f) q t) ∧ nF (taF f (nF f) q t) ≤ nF f ∧ nF f ≤ nF (taF f (nF f) q t) + 1 := by
  have h1 := okF_tq h q t
  unfold taF
  split
  · have h2 := okF_dr h1.1 (q := q) (by omega)
    rw [h1.2] at h2
    exact ⟨h2.1, by omega, by omega⟩
  · exact ⟨h1.1, by omega, by omega⟩
theorem mR_mR {U : MV_} {k : Nat} {f g : Nat → Int32} : mR (mR U k f) k g = mR U k g := by
  unfold mR
  congr 1
  funext j
  by_cases h : j = k
  · subst h; simp [va_up]
  · simp [va_up, h]
/-- one meeting of a new order with the book -/
def mtT (f : Nat → Int32) (x : Int32) (j : Nat) : Int32 := mmin x (oF f j 4)
def mtS (b : Bool) (i : Nat) (f : Nat → Int32) (x : Int32) (j : Nat) : Nat → Int32 := taF (pyF f (if b = true then i else wF f j) (if b = true then wF f j else i) (oF f j 3) (mtT f x j)) (nF f) j (mtT f x j)
def mtR (b : Bool) (i : Nat) (pr : Int32) : Nat → (Nat → Int32) → Int32 → (Nat → Int32) × Int32
  | 0, f, x => (f, x)
  | v + 1, f, x => if x ≤ 0 then (f, x) else match mbF f (!b) (nF f) with
    | none => (f, x)
    | some j => if tnB b pr (oF f j 3) = true then mtR b i pr v (mtS b i f x j) (x - mtT f x j) else (f, x)
theorem mtR_x {b : Bool} {i : Nat} {pr x : Int32} {f : Nat → Int32} (h : x ≤ 0) : ∀ v, mtR b i pr v f x = (f, x)
  | 0 => rfl
  | v + 1 => if_pos h
theorem mtR_n {b : Bool} {i : Nat} {pr x : Int32} {f : Nat → Int32} (h : mbF f (!b) (nF f) = none) : ∀ v, mtR b i pr v f x = (f, x)
  | 0 => rfl
  | v + 1 => by rw [mtR]; split; rfl; rw [h]
theorem mtR_s {b : Bool} {i : Nat} {pr x : Int32} {f : Nat → Int32} {j : Nat} (h : mbF f (!b) (nF f) = some j) (hb : tnB b pr (oF f j 3) = false) : ∀ v, mtR b i pr v f x = (f, x)
  | 0 => rfl
  | v + 1 => by rw [mtR]; split; rfl; rw [h]; exact if_neg (by rw [hb]; decide)
theorem mtR_g {b : Bool} {i : Nat} {pr x : Int32} {f : Nat → Int32} {j : Nat} (hx : ¬ x ≤ 0) (h : mbF f (!b) (nF f) = some j) (hb : tnB b pr (oF f j 3) = true) (v : Nat) : mtR b i pr (v + 1) f x = mtR b i pr v (mtS b i f x j) (x - mtT f x j) := by
  rw [mtR, if_neg hx, h]
  exact if_pos hb
/-- the meetings that are left at most -/
def mtM (f : Nat → Int32) (x : Int32) : Nat := nF f + if x ≤ 0 then 0 else 1
theorem mtS_ok {b : Bool} {i : Nat} {x : Int32} {f : Nat → Int32} {j : Nat} (h : okF f) (hi : i < 6) (hj : j < nF f) : okF (mtS b i f x j) ∧ nF (mtS b i f x j) ≤ nF f := by
  have hw := h.2.2.2.2 j hj
  have ht := h.2.2.2.1
  have h1 := okF_py (bu := if b = true then i else wF f j) (se := if b = true then wF f j else i) (pr := oF f j 3) (q := mtT f x j) h (by split <;> omega) (by split <;> omega)
  have h2 := okF_ta h1.1 (q := j) (by omega) (mtT f x j)
  rw [h1.2] at h2
  exact ⟨h2.1, h2.2.1⟩
theorem mtS_lt {b : Bool} {i : Nat} {x : Int32} {f : Nat → Int32} {j : Nat} (h : okF f) (hi : i < 6) (hj : j < nF f) (hx : ¬ x ≤ 0) : mtM (mtS b i f x j) (x - mtT f x j) < mtM f x := by
  have hw := h.2.2.2.2 j hj
  have ht := h.2.2.2.1
  have h1 := okF_py (bu := if b = true then i else wF f j) (se := if b = true then wF f j else i) (pr := oF f j 3) (q := mtT f x j) h (by split <;> omega) (by split <;> omega)
  have h0 := mtS_ok (b := b) (i := i) (x := x) h hi hj
  unfold mtM
  rw [if_neg hx]
  by_cases hq : oF f j 4 < x
  · have e : mtT f x j = oF f j 4 := if_pos hq
    have hz : oF (tqF (pyF f (if b = true then i else wF f j) (if b = true then wF f j else i) (oF f j 3) (mtT f x j)) j (mtT f x j)) j 4 = 0 := by
      unfold oF tqF
      rw [pk_us, py_hi (by split <;> omega) (by split <;> omega) (by omega), e]
      exact Int32.sub_self _
    have h3 : nF (mtS b i f x j) = nF f - 1 := by
      unfold mtS taF
      rw [if_pos hz]
      have h4 := okF_tq h1.1 j (mtT f x j)
      have h5 := okF_dr h4.1 (q := j) (by omega)
      rw [h4.2, h1.2] at h5
      exact h5.2
    rw [h3]
    split <;> omega
  · have e : mtT f x j = x := if_neg hq
    rw [e, Int32.sub_self, if_pos (by decide)]
    omega

set_option maxHeartbeats 4000000 in
set_option maxRecDepth 100000 in
theorem k12_trades {l : Launch} {G : Gx} (hF : SF l G) {mo : Nat → Nat} {U : MV_} {X : va_W} (hok : okF (U.2 0)) {i : Nat} (hi : i < 6) (b : Bool) (pr q : Int32) : MI l G yX12_trades cX12_trades 9 .int 3 0 0 [.ref (mo 0), .int (nI i), .int (bI b), .int pr, .int q] (moW G mo U ++ X) (fun r _ => r = (mtR b i pr 21 (U.2 0) q).2) (fun _ : Unit => moW G mo (mR U 0 (mtR b i pr 21 (U.2 0) q).1) ++ X) := by
  refine mt_of hF (by decide) (Nat.le_of_ble_eq_true rfl) ?_
  intro p e s m below meth c C hin ls hl H locs hw
  have hl : lv_has ls 9 [(0, .ref (mo 0)), (1, .int (nI i)), (2, .int (bI b)), (3, .int pr), (4, .int q)] := hl
  refine lv_iload C.1 C.2.1 dX12_trades_0 (lv_at hl 4 rfl) ?_
  refine lv_istore (lv' := [(5, .int q), (0, .ref (mo 0)), (1, .int (nI i)), (2, .int (bI b)), (3, .int pr), (4, .int q)]) C.1 C.2.1 dX12_trades_2 hl (by decide) rfl (fun ls hl => ?_)
  refine lv_aload_n C.1 C.2.1 dX12_trades_4 rfl (lv_at hl 1 rfl) ?_
  refine lv_iload_n C.1 C.2.1 dX12_trades_5 rfl (lv_at hl 3 rfl) ?_
  refine lv_if_ne (tgt := 13) C.1 C.2.1 dX12_trades_6 (by decide) (fun c_6 => ?_) (fun c_6 => ?_)
  · have hb : b = true := bI_ne0.mp c_6
    refine lv_iconst (v := 0) C.1 C.2.1 dX12_trades_13 (by decide) ?_
    refine r_vi C hw (k12_best hF (mo := mo) (U := U) (X := X) (n := (nF (U.2 0))) hok.1 hok.2.1 false) ml_X12_70 yf_X12_best 0 rfl rfl (As := [.int 0]) rfl rfl ⟨Nat.le_of_ble_eq_true rfl, Nat.le_of_ble_eq_true rfl⟩ ⟨Nat.le_of_ble_eq_true rfl, Nat.le_of_ble_eq_true rfl⟩ hl.1 (Nat.le_of_ble_eq_true rfl) dX12_trades_14 (fun r_14 _ H locs hp_14 hw => ?_)
    obtain rfl : r_14 = oI (mbF (U.2 0) false (nF (U.2 0))) := hp_14
    replace hw : WH G s (moW G mo U ++ X) H locs := hw
    refine r_toe (show _ = oI (mbF (U.2 0) (!b) (nF (U.2 0))) from (by rw [hb]; rfl)) ?_
    refine lv_istore (lv' := [(6, .int (oI (mbF (U.2 0) (!b) (nF (U.2 0))))), (5, .int q), (0, .ref (mo 0)), (1, .int (nI i)), (2, .int (bI b)), (3, .int pr), (4, .int q)]) C.1 C.2.1 dX12_trades_17 hl (by decide) rfl (fun ls hl => ?_)
    refine w_loop (σ := Nat × (Nat → Int32) × Int32) G (fun u ⟨v, f, x⟩ => v < u ∧ mtM f x ≤ v ∧ okF f ∧ nF f ≤ nF (U.2 0) ∧ mtR b i pr 21 (U.2 0) q = mtR b i pr v f x) (fun ⟨v, f, x⟩ => moW G mo (mR U 0 f) ++ X) (fun ⟨v, f, x⟩ => 0) (fun ⟨v, f, x⟩ => 0) (fun ⟨v, f, x⟩ => [(0, .ref (mo 0)), (1, .int (nI i)), (2, .int (bI b)), (3, .int pr), (4, .int q), (5, .int x), (6, .int (oI (mbF f (!b) (nF f))))]) 9 ?_ ?_ 22 (21, U.2 0, q) (⟨by omega, by unfold mtM; have := hok.2.1; split <;> omega, hok, Nat.le_refl _, rfl⟩) hw (lv_sub hl [2, 3, 4, 5, 6, 1, 0] rfl)
    · rintro n19 ⟨v, f, x⟩ ⟨h1, h2, h3, h4, h5⟩ ih19 H locs hw ls hl
      replace hw : WH G s (moW G mo (mR U 0 f) ++ X) H locs := hw
      replace hl : lv_has ls 9 [(0, .ref (mo 0)), (1, .int (nI i)), (2, .int (bI b)), (3, .int pr), (4, .int q), (5, .int x), (6, .int (oI (mbF f (!b) (nF f))))] := hl
      have hn20 := h3.2.1
      have ht6 := h3.2.2.2.1
      refine lv_iload C.1 C.2.1 dX12_trades_19 (lv_at hl 5 rfl) ?_
      refine lv_if_le (tgt := 147) C.1 C.2.1 dX12_trades_21 (by decide) (fun c_21 => ?_) (fun c_21 => ?_)
      · have hz := h5.trans (mtR_x (b := b) (i := i) (pr := pr) (f := f) c_21 v)
        refine lv_iload C.1 C.2.1 dX12_trades_147 (lv_at hl 5 rfl) ?_
        exact r_iret C hw rfl rfl () (by rw [hz]) (by rw [hz]) (Nat.le_of_ble_eq_true rfl) (Nat.le_of_ble_eq_true rfl) dX12_trades_149
      · have hv : 1 ≤ v := by unfold mtM at h2; rw [if_neg c_21] at h2; omega
        refine lv_iload C.1 C.2.1 dX12_trades_24 (lv_at hl 6 rfl) ?_
        refine lv_if_lt (tgt := 147) C.1 C.2.1 dX12_trades_26 (by decide) (fun c_26 => ?_) (fun c_26 => ?_)
        · have hz := h5.trans (mtR_n (b := b) (i := i) (pr := pr) (x := x) (f := f) (by cases ho : mbF f (!b) (nF f) with | none => rfl | some j => rw [ho] at c_26; exact absurd c_26 (nI_pos (by have := mb_lt ho; omega))) v)
          refine lv_iload C.1 C.2.1 dX12_trades_147 (lv_at hl 5 rfl) ?_
          exact r_iret C hw rfl rfl () (by rw [hz]) (by rw [hz]) (Nat.le_of_ble_eq_true rfl) (Nat.le_of_ble_eq_true rfl) dX12_trades_149
        · obtain ⟨j, hoj⟩ : ∃ j, mbF f (!b) (nF f) = some j := by cases ho : mbF f (!b) (nF f) with | none => rw [ho] at c_26; exact absurd (show oI none < 0 by decide) c_26 | some j => exact ⟨j, rfl⟩
          have hj : j < nF f := mb_lt hoj
          have hwj := h3.2.2.2.2 j hj
          replace hl : lv_has ls 9 [(0, .ref (mo 0)), (1, .int (nI i)), (2, .int (bI b)), (3, .int pr), (4, .int q), (5, .int x), (6, .int (nI j))] := hl.to_eq (by rw [hoj]; rfl)
          refine lv_iload_n C.1 C.2.1 dX12_trades_29 rfl (lv_at hl 2 rfl) ?_
          refine lv_if_eq (tgt := 47) C.1 C.2.1 dX12_trades_30 (by decide) (fun c_30 => ?_) (fun c_30 => ?_)
          · obtain rfl : b = false := bI_eq0.mp c_30
            replace hl : lv_has ls 9 [(0, .ref (mo 0)), (1, .int (nI i)), (2, .int (bI false)), (3, .int pr), (4, .int q), (5, .int x), (6, .int (nI j))] := hl
            refine lv_aload_n C.1 C.2.1 dX12_trades_47 rfl (lv_at hl 0 rfl) ?_
            refine lv_iload C.1 C.2.1 dX12_trades_48 (lv_at hl 6 rfl) ?_
            refine lv_iconst (v := 3) C.1 C.2.1 dX12_trades_50 (by decide) ?_
            refine r_vi C hw (k12_of hF (mo := mo) (U := (mR U 0 f)) (X := X) (i := j) (k := 3) (by omega) (by omega)) ml_X12_55 yf_X12_of 0 rfl rfl (As := [.int (nI j), .int 3]) rfl rfl ⟨Nat.le_of_ble_eq_true rfl, Nat.le_of_ble_eq_true rfl⟩ ⟨Nat.le_of_ble_eq_true rfl, Nat.le_of_ble_eq_true rfl⟩ hl.1 (Nat.le_of_ble_eq_true rfl) dX12_trades_51 (fun r_51 _ H locs hp_51 hw => ?_)
            obtain rfl : r_51 = oF f j 3 := hp_51
            replace hw : WH G s (moW G mo (mR U 0 f) ++ X) H locs := hw
            refine lv_iload_n C.1 C.2.1 dX12_trades_54 rfl (lv_at hl 3 rfl) ?_
            refine lv_icmp_lt (tgt := 147) C.1 C.2.1 dX12_trades_55 (by decide) (fun c_55 => ?_) (fun c_55 => ?_)
            · have hz := h5.trans (mtR_s (i := i) hoj (by simp [tnB, c_55]) v)
              refine lv_iload C.1 C.2.1 dX12_trades_147 (lv_at hl 5 rfl) ?_
              exact r_iret C hw rfl rfl () (by rw [hz]) (by rw [hz]) (Nat.le_of_ble_eq_true rfl) (Nat.le_of_ble_eq_true rfl) dX12_trades_149
            · refine lv_iload C.1 C.2.1 dX12_trades_58 (lv_at hl 5 rfl) ?_
              refine lv_aload_n C.1 C.2.1 dX12_trades_60 rfl (lv_at hl 0 rfl) ?_
              refine lv_iload C.1 C.2.1 dX12_trades_61 (lv_at hl 6 rfl) ?_
              refine lv_iconst (v := 4) C.1 C.2.1 dX12_trades_63 (by decide) ?_
              refine r_vi C hw (k12_of hF (mo := mo) (U := (mR U 0 f)) (X := X) (i := j) (k := 4) (by omega) (by omega)) ml_X12_55 yf_X12_of 0 rfl rfl (As := [.int (nI j), .int 4]) rfl rfl ⟨Nat.le_of_ble_eq_true rfl, Nat.le_of_ble_eq_true rfl⟩ ⟨Nat.le_of_ble_eq_true rfl, Nat.le_of_ble_eq_true rfl⟩ hl.1 (Nat.le_of_ble_eq_true rfl) dX12_trades_64 (fun r_64 _ H locs hp_64 hw => ?_)
              obtain rfl : r_64 = oF f j 4 := hp_64
              replace hw : WH G s (moW G mo (mR U 0 f) ++ X) H locs := hw
              refine r_mmin C ml_X12_74 hl.1 (Nat.le_of_ble_eq_true rfl) (Nat.le_of_ble_eq_true rfl) (Nat.le_of_ble_eq_true rfl) (Nat.le_of_ble_eq_true rfl) dX12_trades_67 ?_
              refine lv_istore (lv' := [(7, .int (mmin x (oF f j 4))), (0, .ref (mo 0)), (1, .int (nI i)), (2, .int (bI false)), (3, .int pr), (4, .int q), (5, .int x), (6, .int (nI j))]) C.1 C.2.1 dX12_trades_70 hl (by decide) rfl (fun ls hl => ?_)
              refine lv_aload_n C.1 C.2.1 dX12_trades_72 rfl (lv_at hl 1 rfl) ?_
              refine lv_iload C.1 C.2.1 dX12_trades_73 (lv_at hl 7 rfl) ?_
              refine lv_iconst (v := 1) C.1 C.2.1 dX12_trades_75 (by decide) ?_
              refine r_vi C hw (k12_of hF (mo := mo) (U := (mR U 0 f)) (X := X) (i := j) (k := 1) (by omega) (by omega)) ml_X12_55 yf_X12_of 0 rfl rfl (As := [.int (nI j), .int 1]) rfl rfl ⟨Nat.le_of_ble_eq_true rfl, Nat.le_of_ble_eq_true rfl⟩ ⟨Nat.le_of_ble_eq_true rfl, Nat.le_of_ble_eq_true rfl⟩ hl.1 (Nat.le_of_ble_eq_true rfl) dX12_trades_76 (fun r_76 _ H locs hp_76 hw => ?_)
              obtain rfl : r_76 = oF f j 1 := hp_76
              replace hw : WH G s (moW G mo (mR U 0 f) ++ X) H locs := hw
              refine r_toe hwj.1 ?_
              refine lv_istore (lv' := [(8, .int (nI (wF f j))), (7, .int (mmin x (oF f j 4))), (0, .ref (mo 0)), (1, .int (nI i)), (2, .int (bI false)), (3, .int pr), (4, .int q), (5, .int x), (6, .int (nI j))]) C.1 C.2.1 dX12_trades_79 hl (by decide) rfl (fun ls hl => ?_)
              refine lv_aload_n C.1 C.2.1 dX12_trades_81 rfl (lv_at hl 2 rfl) ?_
              refine lv_iload_n C.1 C.2.1 dX12_trades_82 rfl (lv_at hl 4 rfl) ?_
              refine lv_if_eq (tgt := 90) C.1 C.2.1 dX12_trades_83 (by decide) (fun c_83 => ?_) (fun c_83 => absurd (by decide) c_83)
              refine lv_iload C.1 C.2.1 dX12_trades_90 (lv_at hl 0 rfl) ?_
              refine lv_iload_n C.1 C.2.1 dX12_trades_92 rfl (lv_at hl 4 rfl) ?_
              refine lv_if_eq (tgt := 101) C.1 C.2.1 dX12_trades_93 (by decide) (fun c_93 => ?_) (fun c_93 => absurd (by decide) c_93)
              refine lv_iload_n C.1 C.2.1 dX12_trades_101 rfl (lv_at hl 3 rfl) ?_
              refine lv_aload_n C.1 C.2.1 dX12_trades_102 rfl (lv_at hl 2 rfl) ?_
              refine lv_iload C.1 C.2.1 dX12_trades_103 (lv_at hl 8 rfl) ?_
              refine lv_iconst (v := 3) C.1 C.2.1 dX12_trades_105 (by decide) ?_
              refine r_vi C hw (k12_of hF (mo := mo) (U := (mR U 0 f)) (X := X) (i := j) (k := 3) (by omega) (by omega)) ml_X12_55 yf_X12_of 0 rfl rfl (As := [.int (nI j), .int 3]) rfl rfl ⟨Nat.le_of_ble_eq_true rfl, Nat.le_of_ble_eq_true rfl⟩ ⟨Nat.le_of_ble_eq_true rfl, Nat.le_of_ble_eq_true rfl⟩ hl.1 (Nat.le_of_ble_eq_true rfl) dX12_trades_106 (fun r_106 _ H locs hp_106 hw => ?_)
              obtain rfl : r_106 = oF f j 3 := hp_106
              replace hw : WH G s (moW G mo (mR U 0 f) ++ X) H locs := hw
              refine lv_iload C.1 C.2.1 dX12_trades_109 (lv_at hl 1 rfl) ?_
              refine r_vv C hw (k12_pays hF (mo := mo) (U := (mR U 0 f)) (X := X) (bu := (wF f j)) (se := i) (by omega) (by omega) (oF f j 3) (mmin x (oF f j 4))) ml_X12_79 yf_X12_pays 0 rfl rfl (As := [.int (nI (wF f j)), .int (nI i), .int (oF f j 3), .int (mmin x (oF f j 4))]) rfl rfl ⟨Nat.le_of_ble_eq_true rfl, Nat.le_of_ble_eq_true rfl⟩ ⟨Nat.le_of_ble_eq_true rfl, Nat.le_of_ble_eq_true rfl⟩ hl.1 (Nat.le_of_ble_eq_true rfl) dX12_trades_111 (fun _ H locs hp_111 hw => ?_)
              replace hw : WH G s (moW G mo (mR (mR U 0 f) 0 (pyF f (wF f j) i (oF f j 3) (mmin x (oF f j 4)))) ++ X) H locs := hw
              refine lv_aload_n C.1 C.2.1 dX12_trades_114 rfl (lv_at hl 2 rfl) ?_
              refine lv_iload C.1 C.2.1 dX12_trades_115 (lv_at hl 8 rfl) ?_
              refine lv_iload C.1 C.2.1 dX12_trades_117 (lv_at hl 1 rfl) ?_
              refine r_vv C hw (k12_takes hF (mo := mo) (U := (mR (mR U 0 f) 0 (pyF f (wF f j) i (oF f j 3) (mmin x (oF f j 4))))) (X := X) (n := (nF f)) (show ((pyF f (wF f j) i (oF f j 3) (mmin x (oF f j 4)))) 1 = nI (nF f) from by rw [py_lo (by omega)]; exact h3.1) h3.2.1 (q := j) hj (mmin x (oF f j 4))) ml_X12_83 yf_X12_takes 0 rfl rfl (As := [.int (nI j), .int (mmin x (oF f j 4))]) rfl rfl ⟨Nat.le_of_ble_eq_true rfl, Nat.le_of_ble_eq_true rfl⟩ ⟨Nat.le_of_ble_eq_true rfl, Nat.le_of_ble_eq_true rfl⟩ hl.1 (Nat.le_of_ble_eq_true rfl) dX12_trades_119 (fun _ H locs hp_119 hw => ?_)
              replace hw : WH G s (moW G mo (mR (mR (mR U 0 f) 0 (pyF f (wF f j) i (oF f j 3) (mmin x (oF f j 4)))) 0 (taF (pyF f (wF f j) i (oF f j 3) (mmin x (oF f j 4))) (nF f) j (mmin x (oF f j 4)))) ++ X) H locs := hw
              have hm : (taF (pyF f (wF f j) i (oF f j 3) (mmin x (oF f j 4))) (nF f) j (mmin x (oF f j 4))) = mtS false i f x j := rfl
              rw [hm, mR_mR, mR_mR] at hw
              have hk := mtS_ok (b := false) (i := i) (x := x) h3 hi hj
              have hk2 := mtS_lt (b := false) (i := i) (x := x) h3 hi hj c_21
              have hk3 := mtR_g (i := i) c_21 hoj (show tnB false pr (oF f j 3) = true by simp [tnB]; first | exact c_55 | (rw [Int32.le_iff_toInt_le]; rw [Int32.lt_iff_toInt_lt] at c_55; omega)) (v - 1)
              clear hm
              generalize mtS false i f x j = g at hw hk hk2 hk3
              replace hw : WH G s (moW G mo (mR U 0 g) ++ X) H locs := hw
              refine lv_iload C.1 C.2.1 dX12_trades_122 (lv_at hl 7 rfl) ?_
              refine lv_iload C.1 C.2.1 dX12_trades_124 (lv_at hl 1 rfl) ?_
              refine lv_isub C.1 C.2.1 dX12_trades_126 ?_
              refine lv_istore (lv' := [(5, .int (x - (mmin x (oF f j 4)))), (8, .int (nI (wF f j))), (7, .int (mmin x (oF f j 4))), (0, .ref (mo 0)), (1, .int (nI i)), (2, .int (bI false)), (3, .int pr), (4, .int q), (6, .int (nI j))]) C.1 C.2.1 dX12_trades_127 hl (by decide) rfl (fun ls hl => ?_)
              refine lv_aload_n C.1 C.2.1 dX12_trades_129 rfl (lv_at hl 3 rfl) ?_
              refine lv_iload_n C.1 C.2.1 dX12_trades_130 rfl (lv_at hl 5 rfl) ?_
              refine lv_if_ne (tgt := 138) C.1 C.2.1 dX12_trades_131 (by decide) (fun c_131 => absurd (by decide) c_131) (fun c_131 => ?_)
              refine lv_iconst (v := 1) C.1 C.2.1 dX12_trades_134 (by decide) ?_
              refine lv_goto (tgt := 139) C.1 C.2.1 dX12_trades_135 (by decide) ?_
              refine r_vi C hw (k12_best hF (mo := mo) (U := (mR U 0 g)) (X := X) (n := (nF g)) hk.1.1 hk.1.2.1 true) ml_X12_70 yf_X12_best 0 rfl rfl (As := [.int 1]) rfl rfl ⟨Nat.le_of_ble_eq_true rfl, Nat.le_of_ble_eq_true rfl⟩ ⟨Nat.le_of_ble_eq_true rfl, Nat.le_of_ble_eq_true rfl⟩ hl.1 (Nat.le_of_ble_eq_true rfl) dX12_trades_139 (fun r_139 _ H locs hp_139 hw => ?_)
              obtain rfl : r_139 = oI (mbF g true (nF g)) := hp_139
              replace hw : WH G s (moW G mo (mR U 0 g) ++ X) H locs := hw
              refine lv_istore (lv' := [(6, .int (oI (mbF g true (nF g)))), (5, .int (x - (mmin x (oF f j 4)))), (8, .int (nI (wF f j))), (7, .int (mmin x (oF f j 4))), (0, .ref (mo 0)), (1, .int (nI i)), (2, .int (bI false)), (3, .int pr), (4, .int q)]) C.1 C.2.1 dX12_trades_142 hl (by decide) rfl (fun ls hl => ?_)
              refine lv_goto (tgt := 19) C.1 C.2.1 dX12_trades_144 (by decide) ?_
              exact ih19 (v - 1, g, x - mtT f x j) (⟨by omega, by omega, hk.1, Nat.le_trans hk.2 h4, h5.trans (by rw [show v = (v - 1) + 1 by omega]; exact hk3)⟩) _ _ hw _ (lv_sub hl [4, 5, 6, 7, 8, 1, 0] rfl)
          · obtain rfl : b = true := bI_ne0.mp c_30
            replace hl : lv_has ls 9 [(0, .ref (mo 0)), (1, .int (nI i)), (2, .int (bI true)), (3, .int pr), (4, .int q), (5, .int x), (6, .int (nI j))] := hl
            refine lv_aload_n C.1 C.2.1 dX12_trades_33 rfl (lv_at hl 0 rfl) ?_
            refine lv_iload C.1 C.2.1 dX12_trades_34 (lv_at hl 6 rfl) ?_
            refine lv_iconst (v := 3) C.1 C.2.1 dX12_trades_36 (by decide) ?_
            refine r_vi C hw (k12_of hF (mo := mo) (U := (mR U 0 f)) (X := X) (i := j) (k := 3) (by omega) (by omega)) ml_X12_55 yf_X12_of 0 rfl rfl (As := [.int (nI j), .int 3]) rfl rfl ⟨Nat.le_of_ble_eq_true rfl, Nat.le_of_ble_eq_true rfl⟩ ⟨Nat.le_of_ble_eq_true rfl, Nat.le_of_ble_eq_true rfl⟩ hl.1 (Nat.le_of_ble_eq_true rfl) dX12_trades_37 (fun r_37 _ H locs hp_37 hw => ?_)
            obtain rfl : r_37 = oF f j 3 := hp_37
            replace hw : WH G s (moW G mo (mR U 0 f) ++ X) H locs := hw
            refine lv_iload_n C.1 C.2.1 dX12_trades_40 rfl (lv_at hl 3 rfl) ?_
            refine lv_icmp_gt (tgt := 147) C.1 C.2.1 dX12_trades_41 (by decide) (fun c_41 => ?_) (fun c_41 => ?_)
            · have hz := h5.trans (mtR_s (i := i) hoj (by simp [tnB, c_41]) v)
              refine lv_iload C.1 C.2.1 dX12_trades_147 (lv_at hl 5 rfl) ?_
              exact r_iret C hw rfl rfl () (by rw [hz]) (by rw [hz]) (Nat.le_of_ble_eq_true rfl) (Nat.le_of_ble_eq_true rfl) dX12_trades_149
            · refine lv_goto (tgt := 58) C.1 C.2.1 dX12_trades_44 (by decide) ?_
              refine lv_iload C.1 C.2.1 dX12_trades_58 (lv_at hl 5 rfl) ?_
              refine lv_aload_n C.1 C.2.1 dX12_trades_60 rfl (lv_at hl 0 rfl) ?_
              refine lv_iload C.1 C.2.1 dX12_trades_61 (lv_at hl 6 rfl) ?_
              refine lv_iconst (v := 4) C.1 C.2.1 dX12_trades_63 (by decide) ?_
              refine r_vi C hw (k12_of hF (mo := mo) (U := (mR U 0 f)) (X := X) (i := j) (k := 4) (by omega) (by omega)) ml_X12_55 yf_X12_of 0 rfl rfl (As := [.int (nI j), .int 4]) rfl rfl ⟨Nat.le_of_ble_eq_true rfl, Nat.le_of_ble_eq_true rfl⟩ ⟨Nat.le_of_ble_eq_true rfl, Nat.le_of_ble_eq_true rfl⟩ hl.1 (Nat.le_of_ble_eq_true rfl) dX12_trades_64 (fun r_64 _ H locs hp_64 hw => ?_)
              obtain rfl : r_64 = oF f j 4 := hp_64
              replace hw : WH G s (moW G mo (mR U 0 f) ++ X) H locs := hw
              refine r_mmin C ml_X12_74 hl.1 (Nat.le_of_ble_eq_true rfl) (Nat.le_of_ble_eq_true rfl) (Nat.le_of_ble_eq_true rfl) (Nat.le_of_ble_eq_true rfl) dX12_trades_67 ?_
              refine lv_istore (lv' := [(7, .int (mmin x (oF f j 4))), (0, .ref (mo 0)), (1, .int (nI i)), (2, .int (bI true)), (3, .int pr), (4, .int q), (5, .int x), (6, .int (nI j))]) C.1 C.2.1 dX12_trades_70 hl (by decide) rfl (fun ls hl => ?_)
              refine lv_aload_n C.1 C.2.1 dX12_trades_72 rfl (lv_at hl 1 rfl) ?_
              refine lv_iload C.1 C.2.1 dX12_trades_73 (lv_at hl 7 rfl) ?_
              refine lv_iconst (v := 1) C.1 C.2.1 dX12_trades_75 (by decide) ?_
              refine r_vi C hw (k12_of hF (mo := mo) (U := (mR U 0 f)) (X := X) (i := j) (k := 1) (by omega) (by omega)) ml_X12_55 yf_X12_of 0 rfl rfl (As := [.int (nI j), .int 1]) rfl rfl ⟨Nat.le_of_ble_eq_true rfl, Nat.le_of_ble_eq_true rfl⟩ ⟨Nat.le_of_ble_eq_true rfl, Nat.le_of_ble_eq_true rfl⟩ hl.1 (Nat.le_of_ble_eq_true rfl) dX12_trades_76 (fun r_76 _ H locs hp_76 hw => ?_)
              obtain rfl : r_76 = oF f j 1 := hp_76
              replace hw : WH G s (moW G mo (mR U 0 f) ++ X) H locs := hw
              refine r_toe hwj.1 ?_
              refine lv_istore (lv' := [(8, .int (nI (wF f j))), (7, .int (mmin x (oF f j 4))), (0, .ref (mo 0)), (1, .int (nI i)), (2, .int (bI true)), (3, .int pr), (4, .int q), (5, .int x), (6, .int (nI j))]) C.1 C.2.1 dX12_trades_79 hl (by decide) rfl (fun ls hl => ?_)
              refine lv_aload_n C.1 C.2.1 dX12_trades_81 rfl (lv_at hl 2 rfl) ?_
              refine lv_iload_n C.1 C.2.1 dX12_trades_82 rfl (lv_at hl 4 rfl) ?_
              refine lv_if_eq (tgt := 90) C.1 C.2.1 dX12_trades_83 (by decide) (fun c_83 => absurd c_83 (by decide)) (fun c_83 => ?_)
              refine lv_iload_n C.1 C.2.1 dX12_trades_86 rfl (lv_at hl 3 rfl) ?_
              refine lv_goto (tgt := 92) C.1 C.2.1 dX12_trades_87 (by decide) ?_
              refine lv_iload_n C.1 C.2.1 dX12_trades_92 rfl (lv_at hl 4 rfl) ?_
              refine lv_if_eq (tgt := 101) C.1 C.2.1 dX12_trades_93 (by decide) (fun c_93 => absurd c_93 (by decide)) (fun c_93 => ?_)
              refine lv_iload C.1 C.2.1 dX12_trades_96 (lv_at hl 0 rfl) ?_
              refine lv_goto (tgt := 102) C.1 C.2.1 dX12_trades_98 (by decide) ?_
              refine lv_aload_n C.1 C.2.1 dX12_trades_102 rfl (lv_at hl 2 rfl) ?_
              refine lv_iload C.1 C.2.1 dX12_trades_103 (lv_at hl 8 rfl) ?_
              refine lv_iconst (v := 3) C.1 C.2.1 dX12_trades_105 (by decide) ?_
              refine r_vi C hw (k12_of hF (mo := mo) (U := (mR U 0 f)) (X := X) (i := j) (k := 3) (by omega) (by omega)) ml_X12_55 yf_X12_of 0 rfl rfl (As := [.int (nI j), .int 3]) rfl rfl ⟨Nat.le_of_ble_eq_true rfl, Nat.le_of_ble_eq_true rfl⟩ ⟨Nat.le_of_ble_eq_true rfl, Nat.le_of_ble_eq_true rfl⟩ hl.1 (Nat.le_of_ble_eq_true rfl) dX12_trades_106 (fun r_106 _ H locs hp_106 hw => ?_)
              obtain rfl : r_106 = oF f j 3 := hp_106
              replace hw : WH G s (moW G mo (mR U 0 f) ++ X) H locs := hw
              refine lv_iload C.1 C.2.1 dX12_trades_109 (lv_at hl 1 rfl) ?_
              refine r_vv C hw (k12_pays hF (mo := mo) (U := (mR U 0 f)) (X := X) (bu := i) (se := (wF f j)) (by omega) (by omega) (oF f j 3) (mmin x (oF f j 4))) ml_X12_79 yf_X12_pays 0 rfl rfl (As := [.int (nI i), .int (nI (wF f j)), .int (oF f j 3), .int (mmin x (oF f j 4))]) rfl rfl ⟨Nat.le_of_ble_eq_true rfl, Nat.le_of_ble_eq_true rfl⟩ ⟨Nat.le_of_ble_eq_true rfl, Nat.le_of_ble_eq_true rfl⟩ hl.1 (Nat.le_of_ble_eq_true rfl) dX12_trades_111 (fun _ H locs hp_111 hw => ?_)
              replace hw : WH G s (moW G mo (mR (mR U 0 f) 0 (pyF f i (wF f j) (oF f j 3) (mmin x (oF f j 4)))) ++ X) H locs := hw
              refine lv_aload_n C.1 C.2.1 dX12_trades_114 rfl (lv_at hl 2 rfl) ?_
              refine lv_iload C.1 C.2.1 dX12_trades_115 (lv_at hl 8 rfl) ?_
              refine lv_iload C.1 C.2.1 dX12_trades_117 (lv_at hl 1 rfl) ?_
              refine r_vv C hw (k12_takes hF (mo := mo) (U := (mR (mR U 0 f) 0 (pyF f i (wF f j) (oF f j 3) (mmin x (oF f j 4))))) (X := X) (n := (nF f)) (show ((pyF f i (wF f j) (oF f j 3) (mmin x (oF f j 4)))) 1 = nI (nF f) from by rw [py_lo (by omega)]; exact h3.1) h3.2.1 (q := j) hj (mmin x (oF f j 4))) ml_X12_83 yf_X12_takes 0 rfl rfl (As := [.int (nI j), .int (mmin x (oF f j 4))]) rfl rfl ⟨Nat.le_of_ble_eq_true rfl, Nat.le_of_ble_eq_true rfl⟩ ⟨Nat.le_of_ble_eq_true rfl, Nat.le_of_ble_eq_true rfl⟩ hl.1 (Nat.le_of_ble_eq_true rfl) dX12_trades_119 (fun _ H locs hp_119 hw => ?_)
              replace hw : WH G s (moW G mo (mR (mR (mR U 0 f) 0 (pyF f i (wF f j) (oF f j 3) (mmin x (oF f j 4)))) 0 (taF (pyF f i (wF f j) (oF f j 3) (mmin x (oF f j 4))) (nF f) j (mmin x (oF f j 4)))) ++ X) H locs := hw
              have hm : (taF (pyF f i (wF f j) (oF f j 3) (mmin x (oF f j 4))) (nF f) j (mmin x (oF f j 4))) = mtS true i f x j := rfl
              rw [hm, mR_mR, mR_mR] at hw
              have hk := mtS_ok (b := true) (i := i) (x := x) h3 hi hj
              have hk2 := mtS_lt (b := true) (i := i) (x := x) h3 hi hj c_21
              have hk3 := mtR_g (i := i) c_21 hoj (show tnB true pr (oF f j 3) = true by simp [tnB]; first | exact c_41 | (rw [Int32.le_iff_toInt_le]; rw [Int32.lt_iff_toInt_lt] at c_41; omega)) (v - 1)
              clear hm
              generalize mtS true i f x j = g at hw hk hk2 hk3
              replace hw : WH G s (moW G mo (mR U 0 g) ++ X) H locs := hw
              refine lv_iload C.1 C.2.1 dX12_trades_122 (lv_at hl 7 rfl) ?_
              refine lv_iload C.1 C.2.1 dX12_trades_124 (lv_at hl 1 rfl) ?_
              refine lv_isub C.1 C.2.1 dX12_trades_126 ?_
              refine lv_istore (lv' := [(5, .int (x - (mmin x (oF f j 4)))), (8, .int (nI (wF f j))), (7, .int (mmin x (oF f j 4))), (0, .ref (mo 0)), (1, .int (nI i)), (2, .int (bI true)), (3, .int pr), (4, .int q), (6, .int (nI j))]) C.1 C.2.1 dX12_trades_127 hl (by decide) rfl (fun ls hl => ?_)
              refine lv_aload_n C.1 C.2.1 dX12_trades_129 rfl (lv_at hl 3 rfl) ?_
              refine lv_iload_n C.1 C.2.1 dX12_trades_130 rfl (lv_at hl 5 rfl) ?_
              refine lv_if_ne (tgt := 138) C.1 C.2.1 dX12_trades_131 (by decide) (fun c_131 => ?_) (fun c_131 => absurd c_131 (by decide))
              refine lv_iconst (v := 0) C.1 C.2.1 dX12_trades_138 (by decide) ?_
              refine r_vi C hw (k12_best hF (mo := mo) (U := (mR U 0 g)) (X := X) (n := (nF g)) hk.1.1 hk.1.2.1 false) ml_X12_70 yf_X12_best 0 rfl rfl (As := [.int 0]) rfl rfl ⟨Nat.le_of_ble_eq_true rfl, Nat.le_of_ble_eq_true rfl⟩ ⟨Nat.le_of_ble_eq_true rfl, Nat.le_of_ble_eq_true rfl⟩ hl.1 (Nat.le_of_ble_eq_true rfl) dX12_trades_139 (fun r_139 _ H locs hp_139 hw => ?_)
              obtain rfl : r_139 = oI (mbF g false (nF g)) := hp_139
              replace hw : WH G s (moW G mo (mR U 0 g) ++ X) H locs := hw
              refine lv_istore (lv' := [(6, .int (oI (mbF g false (nF g)))), (5, .int (x - (mmin x (oF f j 4)))), (8, .int (nI (wF f j))), (7, .int (mmin x (oF f j 4))), (0, .ref (mo 0)), (1, .int (nI i)), (2, .int (bI true)), (3, .int pr), (4, .int q)]) C.1 C.2.1 dX12_trades_142 hl (by decide) rfl (fun ls hl => ?_)
              refine lv_goto (tgt := 19) C.1 C.2.1 dX12_trades_144 (by decide) ?_
              exact ih19 (v - 1, g, x - mtT f x j) (⟨by omega, by omega, hk.1, Nat.le_trans hk.2 h4, h5.trans (by rw [show v = (v - 1) + 1 by omega]; exact hk3)⟩) _ _ hw _ (lv_sub hl [4, 5, 6, 7, 8, 1, 0] rfl)
    · rintro ⟨v, f, x⟩ ⟨h1, h2, h3, h4, h5⟩; omega
  · have hb : b = false := bI_eq0.mp c_6
    refine lv_iconst (v := 1) C.1 C.2.1 dX12_trades_9 (by decide) ?_
    refine lv_goto (tgt := 14) C.1 C.2.1 dX12_trades_10 (by decide) ?_
    refine r_vi C hw (k12_best hF (mo := mo) (U := U) (X := X) (n := (nF (U.2 0))) hok.1 hok.2.1 true) ml_X12_70 yf_X12_best 0 rfl rfl (As := [.int 1]) rfl rfl ⟨Nat.le_of_ble_eq_true rfl, Nat.le_of_ble_eq_true rfl⟩ ⟨Nat.le_of_ble_eq_true rfl, Nat.le_of_ble_eq_true rfl⟩ hl.1 (Nat.le_of_ble_eq_true rfl) dX12_trades_14 (fun r_14 _ H locs hp_14 hw => ?_)
    obtain rfl : r_14 = oI (mbF (U.2 0) true (nF (U.2 0))) := hp_14
    replace hw : WH G s (moW G mo U ++ X) H locs := hw
    refine r_toe (show _ = oI (mbF (U.2 0) (!b) (nF (U.2 0))) from (by rw [hb]; rfl)) ?_
    refine lv_istore (lv' := [(6, .int (oI (mbF (U.2 0) (!b) (nF (U.2 0))))), (5, .int q), (0, .ref (mo 0)), (1, .int (nI i)), (2, .int (bI b)), (3, .int pr), (4, .int q)]) C.1 C.2.1 dX12_trades_17 hl (by decide) rfl (fun ls hl => ?_)
    refine w_loop (σ := Nat × (Nat → Int32) × Int32) G (fun u ⟨v, f, x⟩ => v < u ∧ mtM f x ≤ v ∧ okF f ∧ nF f ≤ nF (U.2 0) ∧ mtR b i pr 21 (U.2 0) q = mtR b i pr v f x) (fun ⟨v, f, x⟩ => moW G mo (mR U 0 f) ++ X) (fun ⟨v, f, x⟩ => 0) (fun ⟨v, f, x⟩ => 0) (fun ⟨v, f, x⟩ => [(0, .ref (mo 0)), (1, .int (nI i)), (2, .int (bI b)), (3, .int pr), (4, .int q), (5, .int x), (6, .int (oI (mbF f (!b) (nF f))))]) 9 ?_ ?_ 22 (21, U.2 0, q) (⟨by omega, by unfold mtM; have := hok.2.1; split <;> omega, hok, Nat.le_refl _, rfl⟩) hw (lv_sub hl [2, 3, 4, 5, 6, 1, 0] rfl)
    · rintro n19 ⟨v, f, x⟩ ⟨h1, h2, h3, h4, h5⟩ ih19 H locs hw ls hl
      replace hw : WH G s (moW G mo (mR U 0 f) ++ X) H locs := hw
      replace hl : lv_has ls 9 [(0, .ref (mo 0)), (1, .int (nI i)), (2, .int (bI b)), (3, .int pr), (4, .int q), (5, .int x), (6, .int (oI (mbF f (!b) (nF f))))] := hl
      have hn20 := h3.2.1
      have ht6 := h3.2.2.2.1
      refine lv_iload C.1 C.2.1 dX12_trades_19 (lv_at hl 5 rfl) ?_
      refine lv_if_le (tgt := 147) C.1 C.2.1 dX12_trades_21 (by decide) (fun c_21 => ?_) (fun c_21 => ?_)
      · have hz := h5.trans (mtR_x (b := b) (i := i) (pr := pr) (f := f) c_21 v)
        refine lv_iload C.1 C.2.1 dX12_trades_147 (lv_at hl 5 rfl) ?_
        exact r_iret C hw rfl rfl () (by rw [hz]) (by rw [hz]) (Nat.le_of_ble_eq_true rfl) (Nat.le_of_ble_eq_true rfl) dX12_trades_149
      · have hv : 1 ≤ v := by unfold mtM at h2; rw [if_neg c_21] at h2; omega
        refine lv_iload C.1 C.2.1 dX12_trades_24 (lv_at hl 6 rfl) ?_
        refine lv_if_lt (tgt := 147) C.1 C.2.1 dX12_trades_26 (by decide) (fun c_26 => ?_) (fun c_26 => ?_)
        · have hz := h5.trans (mtR_n (b := b) (i := i) (pr := pr) (x := x) (f := f) (by cases ho : mbF f (!b) (nF f) with | none => rfl | some j => rw [ho] at c_26; exact absurd c_26 (nI_pos (by have := mb_lt ho; omega))) v)
          refine lv_iload C.1 C.2.1 dX12_trades_147 (lv_at hl 5 rfl) ?_
          exact r_iret C hw rfl rfl () (by rw [hz]) (by rw [hz]) (Nat.le_of_ble_eq_true rfl) (Nat.le_of_ble_eq_true rfl) dX12_trades_149
        · obtain ⟨j, hoj⟩ : ∃ j, mbF f (!b) (nF f) = some j := by cases ho : mbF f (!b) (nF f) with | none => rw [ho] at c_26; exact absurd (show oI none < 0 by decide) c_26 | some j => exact ⟨j, rfl⟩
          have hj : j < nF f := mb_lt hoj
          have hwj := h3.2.2.2.2 j hj
          replace hl : lv_has ls 9 [(0, .ref (mo 0)), (1, .int (nI i)), (2, .int (bI b)), (3, .int pr), (4, .int q), (5, .int x), (6, .int (nI j))] := hl.to_eq (by rw [hoj]; rfl)
          refine lv_iload_n C.1 C.2.1 dX12_trades_29 rfl (lv_at hl 2 rfl) ?_
          refine lv_if_eq (tgt := 47) C.1 C.2.1 dX12_trades_30 (by decide) (fun c_30 => ?_) (fun c_30 => ?_)
          · obtain rfl : b = false := bI_eq0.mp c_30
            replace hl : lv_has ls 9 [(0, .ref (mo 0)), (1, .int (nI i)), (2, .int (bI false)), (3, .int pr), (4, .int q), (5, .int x), (6, .int (nI j))] := hl
            refine lv_aload_n C.1 C.2.1 dX12_trades_47 rfl (lv_at hl 0 rfl) ?_
            refine lv_iload C.1 C.2.1 dX12_trades_48 (lv_at hl 6 rfl) ?_
            refine lv_iconst (v := 3) C.1 C.2.1 dX12_trades_50 (by decide) ?_
            refine r_vi C hw (k12_of hF (mo := mo) (U := (mR U 0 f)) (X := X) (i := j) (k := 3) (by omega) (by omega)) ml_X12_55 yf_X12_of 0 rfl rfl (As := [.int (nI j), .int 3]) rfl rfl ⟨Nat.le_of_ble_eq_true rfl, Nat.le_of_ble_eq_true rfl⟩ ⟨Nat.le_of_ble_eq_true rfl, Nat.le_of_ble_eq_true rfl⟩ hl.1 (Nat.le_of_ble_eq_true rfl) dX12_trades_51 (fun r_51 _ H locs hp_51 hw => ?_)
            obtain rfl : r_51 = oF f j 3 := hp_51
            replace hw : WH G s (moW G mo (mR U 0 f) ++ X) H locs := hw
            refine lv_iload_n C.1 C.2.1 dX12_trades_54 rfl (lv_at hl 3 rfl) ?_
            refine lv_icmp_lt (tgt := 147) C.1 C.2.1 dX12_trades_55 (by decide) (fun c_55 => ?_) (fun c_55 => ?_)
            · have hz := h5.trans (mtR_s (i := i) hoj (by simp [tnB, c_55]) v)
              refine lv_iload C.1 C.2.1 dX12_trades_147 (lv_at hl 5 rfl) ?_
              exact r_iret C hw rfl rfl () (by rw [hz]) (by rw [hz]) (Nat.le_of_ble_eq_true rfl) (Nat.le_of_ble_eq_true rfl) dX12_trades_149
            · refine lv_iload C.1 C.2.1 dX12_trades_58 (lv_at hl 5 rfl) ?_
              refine lv_aload_n C.1 C.2.1 dX12_trades_60 rfl (lv_at hl 0 rfl) ?_
              refine lv_iload C.1 C.2.1 dX12_trades_61 (lv_at hl 6 rfl) ?_
              refine lv_iconst (v := 4) C.1 C.2.1 dX12_trades_63 (by decide) ?_
              refine r_vi C hw (k12_of hF (mo := mo) (U := (mR U 0 f)) (X := X) (i := j) (k := 4) (by omega) (by omega)) ml_X12_55 yf_X12_of 0 rfl rfl (As := [.int (nI j), .int 4]) rfl rfl ⟨Nat.le_of_ble_eq_true rfl, Nat.le_of_ble_eq_true rfl⟩ ⟨Nat.le_of_ble_eq_true rfl, Nat.le_of_ble_eq_true rfl⟩ hl.1 (Nat.le_of_ble_eq_true rfl) dX12_trades_64 (fun r_64 _ H locs hp_64 hw => ?_)
              obtain rfl : r_64 = oF f j 4 := hp_64
              replace hw : WH G s (moW G mo (mR U 0 f) ++ X) H locs := hw
              refine r_mmin C ml_X12_74 hl.1 (Nat.le_of_ble_eq_true rfl) (Nat.le_of_ble_eq_true rfl) (Nat.le_of_ble_eq_true rfl) (Nat.le_of_ble_eq_true rfl) dX12_trades_67 ?_
              refine lv_istore (lv' := [(7, .int (mmin x (oF f j 4))), (0, .ref (mo 0)), (1, .int (nI i)), (2, .int (bI false)), (3, .int pr), (4, .int q), (5, .int x), (6, .int (nI j))]) C.1 C.2.1 dX12_trades_70 hl (by decide) rfl (fun ls hl => ?_)
              refine lv_aload_n C.1 C.2.1 dX12_trades_72 rfl (lv_at hl 1 rfl) ?_
              refine lv_iload C.1 C.2.1 dX12_trades_73 (lv_at hl 7 rfl) ?_
              refine lv_iconst (v := 1) C.1 C.2.1 dX12_trades_75 (by decide) ?_
              refine r_vi C hw (k12_of hF (mo := mo) (U := (mR U 0 f)) (X := X) (i := j) (k := 1) (by omega) (by omega)) ml_X12_55 yf_X12_of 0 rfl rfl (As := [.int (nI j), .int 1]) rfl rfl ⟨Nat.le_of_ble_eq_true rfl, Nat.le_of_ble_eq_true rfl⟩ ⟨Nat.le_of_ble_eq_true rfl, Nat.le_of_ble_eq_true rfl⟩ hl.1 (Nat.le_of_ble_eq_true rfl) dX12_trades_76 (fun r_76 _ H locs hp_76 hw => ?_)
              obtain rfl : r_76 = oF f j 1 := hp_76
              replace hw : WH G s (moW G mo (mR U 0 f) ++ X) H locs := hw
              refine r_toe hwj.1 ?_
              refine lv_istore (lv' := [(8, .int (nI (wF f j))), (7, .int (mmin x (oF f j 4))), (0, .ref (mo 0)), (1, .int (nI i)), (2, .int (bI false)), (3, .int pr), (4, .int q), (5, .int x), (6, .int (nI j))]) C.1 C.2.1 dX12_trades_79 hl (by decide) rfl (fun ls hl => ?_)
              refine lv_aload_n C.1 C.2.1 dX12_trades_81 rfl (lv_at hl 2 rfl) ?_
              refine lv_iload_n C.1 C.2.1 dX12_trades_82 rfl (lv_at hl 4 rfl) ?_
              refine lv_if_eq (tgt := 90) C.1 C.2.1 dX12_trades_83 (by decide) (fun c_83 => ?_) (fun c_83 => absurd (by decide) c_83)
              refine lv_iload C.1 C.2.1 dX12_trades_90 (lv_at hl 0 rfl) ?_
              refine lv_iload_n C.1 C.2.1 dX12_trades_92 rfl (lv_at hl 4 rfl) ?_
              refine lv_if_eq (tgt := 101) C.1 C.2.1 dX12_trades_93 (by decide) (fun c_93 => ?_) (fun c_93 => absurd (by decide) c_93)
              refine lv_iload_n C.1 C.2.1 dX12_trades_101 rfl (lv_at hl 3 rfl) ?_
              refine lv_aload_n C.1 C.2.1 dX12_trades_102 rfl (lv_at hl 2 rfl) ?_
              refine lv_iload C.1 C.2.1 dX12_trades_103 (lv_at hl 8 rfl) ?_
              refine lv_iconst (v := 3) C.1 C.2.1 dX12_trades_105 (by decide) ?_
              refine r_vi C hw (k12_of hF (mo := mo) (U := (mR U 0 f)) (X := X) (i := j) (k := 3) (by omega) (by omega)) ml_X12_55 yf_X12_of 0 rfl rfl (As := [.int (nI j), .int 3]) rfl rfl ⟨Nat.le_of_ble_eq_true rfl, Nat.le_of_ble_eq_true rfl⟩ ⟨Nat.le_of_ble_eq_true rfl, Nat.le_of_ble_eq_true rfl⟩ hl.1 (Nat.le_of_ble_eq_true rfl) dX12_trades_106 (fun r_106 _ H locs hp_106 hw => ?_)
              obtain rfl : r_106 = oF f j 3 := hp_106
              replace hw : WH G s (moW G mo (mR U 0 f) ++ X) H locs := hw
              refine lv_iload C.1 C.2.1 dX12_trades_109 (lv_at hl 1 rfl) ?_
              refine r_vv C hw (k12_pays hF (mo := mo) (U := (mR U 0 f)) (X := X) (bu := (wF f j)) (se := i) (by omega) (by omega) (oF f j 3) (mmin x (oF f j 4))) ml_X12_79 yf_X12_pays 0 rfl rfl (As := [.int (nI (wF f j)), .int (nI i), .int (oF f j 3), .int (mmin x (oF f j 4))]) rfl rfl ⟨Nat.le_of_ble_eq_true rfl, Nat.le_of_ble_eq_true rfl⟩ ⟨Nat.le_of_ble_eq_true rfl, Nat.le_of_ble_eq_true rfl⟩ hl.1 (Nat.le_of_ble_eq_true rfl) dX12_trades_111 (fun _ H locs hp_111 hw => ?_)
              replace hw : WH G s (moW G mo (mR (mR U 0 f) 0 (pyF f (wF f j) i (oF f j 3) (mmin x (oF f j 4)))) ++ X) H locs := hw
              refine lv_aload_n C.1 C.2.1 dX12_trades_114 rfl (lv_at hl 2 rfl) ?_
              refine lv_iload C.1 C.2.1 dX12_trades_115 (lv_at hl 8 rfl) ?_
              refine lv_iload C.1 C.2.1 dX12_trades_117 (lv_at hl 1 rfl) ?_
              refine r_vv C hw (k12_takes hF (mo := mo) (U := (mR (mR U 0 f) 0 (pyF f (wF f j) i (oF f j 3) (mmin x (oF f j 4))))) (X := X) (n := (nF f)) (show ((pyF f (wF f j) i (oF f j 3) (mmin x (oF f j 4)))) 1 = nI (nF f) from by rw [py_lo (by omega)]; exact h3.1) h3.2.1 (q := j) hj (mmin x (oF f j 4))) ml_X12_83 yf_X12_takes 0 rfl rfl (As := [.int (nI j), .int (mmin x (oF f j 4))]) rfl rfl ⟨Nat.le_of_ble_eq_true rfl, Nat.le_of_ble_eq_true rfl⟩ ⟨Nat.le_of_ble_eq_true rfl, Nat.le_of_ble_eq_true rfl⟩ hl.1 (Nat.le_of_ble_eq_true rfl) dX12_trades_119 (fun _ H locs hp_119 hw => ?_)
              replace hw : WH G s (moW G mo (mR (mR (mR U 0 f) 0 (pyF f (wF f j) i (oF f j 3) (mmin x (oF f j 4)))) 0 (taF (pyF f (wF f j) i (oF f j 3) (mmin x (oF f j 4))) (nF f) j (mmin x (oF f j 4)))) ++ X) H locs := hw
              have hm : (taF (pyF f (wF f j) i (oF f j 3) (mmin x (oF f j 4))) (nF f) j (mmin x (oF f j 4))) = mtS false i f x j := rfl
              rw [hm, mR_mR, mR_mR] at hw
              have hk := mtS_ok (b := false) (i := i) (x := x) h3 hi hj
              have hk2 := mtS_lt (b := false) (i := i) (x := x) h3 hi hj c_21
              have hk3 := mtR_g (i := i) c_21 hoj (show tnB false pr (oF f j 3) = true by simp [tnB]; first | exact c_55 | (rw [Int32.le_iff_toInt_le]; rw [Int32.lt_iff_toInt_lt] at c_55; omega)) (v - 1)
              clear hm
              generalize mtS false i f x j = g at hw hk hk2 hk3
              replace hw : WH G s (moW G mo (mR U 0 g) ++ X) H locs := hw
              refine lv_iload C.1 C.2.1 dX12_trades_122 (lv_at hl 7 rfl) ?_
              refine lv_iload C.1 C.2.1 dX12_trades_124 (lv_at hl 1 rfl) ?_
              refine lv_isub C.1 C.2.1 dX12_trades_126 ?_
              refine lv_istore (lv' := [(5, .int (x - (mmin x (oF f j 4)))), (8, .int (nI (wF f j))), (7, .int (mmin x (oF f j 4))), (0, .ref (mo 0)), (1, .int (nI i)), (2, .int (bI false)), (3, .int pr), (4, .int q), (6, .int (nI j))]) C.1 C.2.1 dX12_trades_127 hl (by decide) rfl (fun ls hl => ?_)
              refine lv_aload_n C.1 C.2.1 dX12_trades_129 rfl (lv_at hl 3 rfl) ?_
              refine lv_iload_n C.1 C.2.1 dX12_trades_130 rfl (lv_at hl 5 rfl) ?_
              refine lv_if_ne (tgt := 138) C.1 C.2.1 dX12_trades_131 (by decide) (fun c_131 => absurd (by decide) c_131) (fun c_131 => ?_)
              refine lv_iconst (v := 1) C.1 C.2.1 dX12_trades_134 (by decide) ?_
              refine lv_goto (tgt := 139) C.1 C.2.1 dX12_trades_135 (by decide) ?_
              refine r_vi C hw (k12_best hF (mo := mo) (U := (mR U 0 g)) (X := X) (n := (nF g)) hk.1.1 hk.1.2.1 true) ml_X12_70 yf_X12_best 0 rfl rfl (As := [.int 1]) rfl rfl ⟨Nat.le_of_ble_eq_true rfl, Nat.le_of_ble_eq_true rfl⟩ ⟨Nat.le_of_ble_eq_true rfl, Nat.le_of_ble_eq_true rfl⟩ hl.1 (Nat.le_of_ble_eq_true rfl) dX12_trades_139 (fun r_139 _ H locs hp_139 hw => ?_)
              obtain rfl : r_139 = oI (mbF g true (nF g)) := hp_139
              replace hw : WH G s (moW G mo (mR U 0 g) ++ X) H locs := hw
              refine lv_istore (lv' := [(6, .int (oI (mbF g true (nF g)))), (5, .int (x - (mmin x (oF f j 4)))), (8, .int (nI (wF f j))), (7, .int (mmin x (oF f j 4))), (0, .ref (mo 0)), (1, .int (nI i)), (2, .int (bI false)), (3, .int pr), (4, .int q)]) C.1 C.2.1 dX12_trades_142 hl (by decide) rfl (fun ls hl => ?_)
              refine lv_goto (tgt := 19) C.1 C.2.1 dX12_trades_144 (by decide) ?_
              exact ih19 (v - 1, g, x - mtT f x j) (⟨by omega, by omega, hk.1, Nat.le_trans hk.2 h4, h5.trans (by rw [show v = (v - 1) + 1 by omega]; exact hk3)⟩) _ _ hw _ (lv_sub hl [4, 5, 6, 7, 8, 1, 0] rfl)
          · obtain rfl : b = true := bI_ne0.mp c_30
            replace hl : lv_has ls 9 [(0, .ref (mo 0)), (1, .int (nI i)), (2, .int (bI true)), (3, .int pr), (4, .int q), (5, .int x), (6, .int (nI j))] := hl
            refine lv_aload_n C.1 C.2.1 dX12_trades_33 rfl (lv_at hl 0 rfl) ?_
            refine lv_iload C.1 C.2.1 dX12_trades_34 (lv_at hl 6 rfl) ?_
            refine lv_iconst (v := 3) C.1 C.2.1 dX12_trades_36 (by decide) ?_
            refine r_vi C hw (k12_of hF (mo := mo) (U := (mR U 0 f)) (X := X) (i := j) (k := 3) (by omega) (by omega)) ml_X12_55 yf_X12_of 0 rfl rfl (As := [.int (nI j), .int 3]) rfl rfl ⟨Nat.le_of_ble_eq_true rfl, Nat.le_of_ble_eq_true rfl⟩ ⟨Nat.le_of_ble_eq_true rfl, Nat.le_of_ble_eq_true rfl⟩ hl.1 (Nat.le_of_ble_eq_true rfl) dX12_trades_37 (fun r_37 _ H locs hp_37 hw => ?_)
            obtain rfl : r_37 = oF f j 3 := hp_37
            replace hw : WH G s (moW G mo (mR U 0 f) ++ X) H locs := hw
            refine lv_iload_n C.1 C.2.1 dX12_trades_40 rfl (lv_at hl 3 rfl) ?_
            refine lv_icmp_gt (tgt := 147) C.1 C.2.1 dX12_trades_41 (by decide) (fun c_41 => ?_) (fun c_41 => ?_)
            · have hz := h5.trans (mtR_s (i := i) hoj (by simp [tnB, c_41]) v)
              refine lv_iload C.1 C.2.1 dX12_trades_147 (lv_at hl 5 rfl) ?_
              exact r_iret C hw rfl rfl () (by rw [hz]) (by rw [hz]) (Nat.le_of_ble_eq_true rfl) (Nat.le_of_ble_eq_true rfl) dX12_trades_149
            · refine lv_goto (tgt := 58) C.1 C.2.1 dX12_trades_44 (by decide) ?_
              refine lv_iload C.1 C.2.1 dX12_trades_58 (lv_at hl 5 rfl) ?_
              refine lv_aload_n C.1 C.2.1 dX12_trades_60 rfl (lv_at hl 0 rfl) ?_
              refine lv_iload C.1 C.2.1 dX12_trades_61 (lv_at hl 6 rfl) ?_
              refine lv_iconst (v := 4) C.1 C.2.1 dX12_trades_63 (by decide) ?_
              refine r_vi C hw (k12_of hF (mo := mo) (U := (mR U 0 f)) (X := X) (i := j) (k := 4) (by omega) (by omega)) ml_X12_55 yf_X12_of 0 rfl rfl (As := [.int (nI j), .int 4]) rfl rfl ⟨Nat.le_of_ble_eq_true rfl, Nat.le_of_ble_eq_true rfl⟩ ⟨Nat.le_of_ble_eq_true rfl, Nat.le_of_ble_eq_true rfl⟩ hl.1 (Nat.le_of_ble_eq_true rfl) dX12_trades_64 (fun r_64 _ H locs hp_64 hw => ?_)
              obtain rfl : r_64 = oF f j 4 := hp_64
              replace hw : WH G s (moW G mo (mR U 0 f) ++ X) H locs := hw
              refine r_mmin C ml_X12_74 hl.1 (Nat.le_of_ble_eq_true rfl) (Nat.le_of_ble_eq_true rfl) (Nat.le_of_ble_eq_true rfl) (Nat.le_of_ble_eq_true rfl) dX12_trades_67 ?_
              refine lv_istore (lv' := [(7, .int (mmin x (oF f j 4))), (0, .ref (mo 0)), (1, .int (nI i)), (2, .int (bI true)), (3, .int pr), (4, .int q), (5, .int x), (6, .int (nI j))]) C.1 C.2.1 dX12_trades_70 hl (by decide) rfl (fun ls hl => ?_)
              refine lv_aload_n C.1 C.2.1 dX12_trades_72 rfl (lv_at hl 1 rfl) ?_
              refine lv_iload C.1 C.2.1 dX12_trades_73 (lv_at hl 7 rfl) ?_
              refine lv_iconst (v := 1) C.1 C.2.1 dX12_trades_75 (by decide) ?_
              refine r_vi C hw (k12_of hF (mo := mo) (U := (mR U 0 f)) (X := X) (i := j) (k := 1) (by omega) (by omega)) ml_X12_55 yf_X12_of 0 rfl rfl (As := [.int (nI j), .int 1]) rfl rfl ⟨Nat.le_of_ble_eq_true rfl, Nat.le_of_ble_eq_true rfl⟩ ⟨Nat.le_of_ble_eq_true rfl, Nat.le_of_ble_eq_true rfl⟩ hl.1 (Nat.le_of_ble_eq_true rfl) dX12_trades_76 (fun r_76 _ H locs hp_76 hw => ?_)
              obtain rfl : r_76 = oF f j 1 := hp_76
              replace hw : WH G s (moW G mo (mR U 0 f) ++ X) H locs := hw
              refine r_toe hwj.1 ?_
              refine lv_istore (lv' := [(8, .int (nI (wF f j))), (7, .int (mmin x (oF f j 4))), (0, .ref (mo 0)), (1, .int (nI i)), (2, .int (bI true)), (3, .int pr), (4, .int q), (5, .int x), (6, .int (nI j))]) C.1 C.2.1 dX12_trades_79 hl (by decide) rfl (fun ls hl => ?_)
              refine lv_aload_n C.1 C.2.1 dX12_trades_81 rfl (lv_at hl 2 rfl) ?_
              refine lv_iload_n C.1 C.2.1 dX12_trades_82 rfl (lv_at hl 4 rfl) ?_
              refine lv_if_eq (tgt := 90) C.1 C.2.1 dX12_trades_83 (by decide) (fun c_83 => absurd c_83 (by decide)) (fun c_83 => ?_)
              refine lv_iload_n C.1 C.2.1 dX12_trades_86 rfl (lv_at hl 3 rfl) ?_
              refine lv_goto (tgt := 92) C.1 C.2.1 dX12_trades_87 (by decide) ?_
              refine lv_iload_n C.1 C.2.1 dX12_trades_92 rfl (lv_at hl 4 rfl) ?_
              refine lv_if_eq (tgt := 101) C.1 C.2.1 dX12_trades_93 (by decide) (fun c_93 => absurd c_93 (by decide)) (fun c_93 => ?_)
              refine lv_iload C.1 C.2.1 dX12_trades_96 (lv_at hl 0 rfl) ?_
              refine lv_goto (tgt := 102) C.1 C.2.1 dX12_trades_98 (by decide) ?_
              refine lv_aload_n C.1 C.2.1 dX12_trades_102 rfl (lv_at hl 2 rfl) ?_
              refine lv_iload C.1 C.2.1 dX12_trades_103 (lv_at hl 8 rfl) ?_
              refine lv_iconst (v := 3) C.1 C.2.1 dX12_trades_105 (by decide) ?_
              refine r_vi C hw (k12_of hF (mo := mo) (U := (mR U 0 f)) (X := X) (i := j) (k := 3) (by omega) (by omega)) ml_X12_55 yf_X12_of 0 rfl rfl (As := [.int (nI j), .int 3]) rfl rfl ⟨Nat.le_of_ble_eq_true rfl, Nat.le_of_ble_eq_true rfl⟩ ⟨Nat.le_of_ble_eq_true rfl, Nat.le_of_ble_eq_true rfl⟩ hl.1 (Nat.le_of_ble_eq_true rfl) dX12_trades_106 (fun r_106 _ H locs hp_106 hw => ?_)
              obtain rfl : r_106 = oF f j 3 := hp_106
              replace hw : WH G s (moW G mo (mR U 0 f) ++ X) H locs := hw
              refine lv_iload C.1 C.2.1 dX12_trades_109 (lv_at hl 1 rfl) ?_
              refine r_vv C hw (k12_pays hF (mo := mo) (U := (mR U 0 f)) (X := X) (bu := i) (se := (wF f j)) (by omega) (by omega) (oF f j 3) (mmin x (oF f j 4))) ml_X12_79 yf_X12_pays 0 rfl rfl (As := [.int (nI i), .int (nI (wF f j)), .int (oF f j 3), .int (mmin x (oF f j 4))]) rfl rfl ⟨Nat.le_of_ble_eq_true rfl, Nat.le_of_ble_eq_true rfl⟩ ⟨Nat.le_of_ble_eq_true rfl, Nat.le_of_ble_eq_true rfl⟩ hl.1 (Nat.le_of_ble_eq_true rfl) dX12_trades_111 (fun _ H locs hp_111 hw => ?_)
              replace hw : WH G s (moW G mo (mR (mR U 0 f) 0 (pyF f i (wF f j) (oF f j 3) (mmin x (oF f j 4)))) ++ X) H locs := hw
              refine lv_aload_n C.1 C.2.1 dX12_trades_114 rfl (lv_at hl 2 rfl) ?_
              refine lv_iload C.1 C.2.1 dX12_trades_115 (lv_at hl 8 rfl) ?_
              refine lv_iload C.1 C.2.1 dX12_trades_117 (lv_at hl 1 rfl) ?_
              refine r_vv C hw (k12_takes hF (mo := mo) (U := (mR (mR U 0 f) 0 (pyF f i (wF f j) (oF f j 3) (mmin x (oF f j 4))))) (X := X) (n := (nF f)) (show ((pyF f i (wF f j) (oF f j 3) (mmin x (oF f j 4)))) 1 = nI (nF f) from by rw [py_lo (by omega)]; exact h3.1) h3.2.1 (q := j) hj (mmin x (oF f j 4))) ml_X12_83 yf_X12_takes 0 rfl rfl (As := [.int (nI j), .int (mmin x (oF f j 4))]) rfl rfl ⟨Nat.le_of_ble_eq_true rfl, Nat.le_of_ble_eq_true rfl⟩ ⟨Nat.le_of_ble_eq_true rfl, Nat.le_of_ble_eq_true rfl⟩ hl.1 (Nat.le_of_ble_eq_true rfl) dX12_trades_119 (fun _ H locs hp_119 hw => ?_)
              replace hw : WH G s (moW G mo (mR (mR (mR U 0 f) 0 (pyF f i (wF f j) (oF f j 3) (mmin x (oF f j 4)))) 0 (taF (pyF f i (wF f j) (oF f j 3) (mmin x (oF f j 4))) (nF f) j (mmin x (oF f j 4)))) ++ X) H locs := hw
              have hm : (taF (pyF f i (wF f j) (oF f j 3) (mmin x (oF f j 4))) (nF f) j (mmin x (oF f j 4))) = mtS true i f x j := rfl
              rw [hm, mR_mR, mR_mR] at hw
              have hk := mtS_ok (b := true) (i := i) (x := x) h3 hi hj
              have hk2 := mtS_lt (b := true) (i := i) (x := x) h3 hi hj c_21
              have hk3 := mtR_g (i := i) c_21 hoj (show tnB true pr (oF f j 3) = true by simp [tnB]; first | exact c_41 | (rw [Int32.le_iff_toInt_le]; rw [Int32.lt_iff_toInt_lt] at c_41; omega)) (v - 1)
              clear hm
              generalize mtS true i f x j = g at hw hk hk2 hk3
              replace hw : WH G s (moW G mo (mR U 0 g) ++ X) H locs := hw
              refine lv_iload C.1 C.2.1 dX12_trades_122 (lv_at hl 7 rfl) ?_
              refine lv_iload C.1 C.2.1 dX12_trades_124 (lv_at hl 1 rfl) ?_
              refine lv_isub C.1 C.2.1 dX12_trades_126 ?_
              refine lv_istore (lv' := [(5, .int (x - (mmin x (oF f j 4)))), (8, .int (nI (wF f j))), (7, .int (mmin x (oF f j 4))), (0, .ref (mo 0)), (1, .int (nI i)), (2, .int (bI true)), (3, .int pr), (4, .int q), (6, .int (nI j))]) C.1 C.2.1 dX12_trades_127 hl (by decide) rfl (fun ls hl => ?_)
              refine lv_aload_n C.1 C.2.1 dX12_trades_129 rfl (lv_at hl 3 rfl) ?_
              refine lv_iload_n C.1 C.2.1 dX12_trades_130 rfl (lv_at hl 5 rfl) ?_
              refine lv_if_ne (tgt := 138) C.1 C.2.1 dX12_trades_131 (by decide) (fun c_131 => ?_) (fun c_131 => absurd c_131 (by decide))
              refine lv_iconst (v := 0) C.1 C.2.1 dX12_trades_138 (by decide) ?_
              refine r_vi C hw (k12_best hF (mo := mo) (U := (mR U 0 g)) (X := X) (n := (nF g)) hk.1.1 hk.1.2.1 false) ml_X12_70 yf_X12_best 0 rfl rfl (As := [.int 0]) rfl rfl ⟨Nat.le_of_ble_eq_true rfl, Nat.le_of_ble_eq_true rfl⟩ ⟨Nat.le_of_ble_eq_true rfl, Nat.le_of_ble_eq_true rfl⟩ hl.1 (Nat.le_of_ble_eq_true rfl) dX12_trades_139 (fun r_139 _ H locs hp_139 hw => ?_)
              obtain rfl : r_139 = oI (mbF g false (nF g)) := hp_139
              replace hw : WH G s (moW G mo (mR U 0 g) ++ X) H locs := hw
              refine lv_istore (lv' := [(6, .int (oI (mbF g false (nF g)))), (5, .int (x - (mmin x (oF f j 4)))), (8, .int (nI (wF f j))), (7, .int (mmin x (oF f j 4))), (0, .ref (mo 0)), (1, .int (nI i)), (2, .int (bI true)), (3, .int pr), (4, .int q)]) C.1 C.2.1 dX12_trades_142 hl (by decide) rfl (fun ls hl => ?_)
              refine lv_goto (tgt := 19) C.1 C.2.1 dX12_trades_144 (by decide) ?_
              exact ih19 (v - 1, g, x - mtT f x j) (⟨by omega, by omega, hk.1, Nat.le_trans hk.2 h4, h5.trans (by rw [show v = (v - 1) + 1 by omega]; exact hk3)⟩) _ _ hw _ (lv_sub hl [4, 5, 6, 7, 8, 1, 0] rfl)
    · rintro ⟨v, f, x⟩ ⟨h1, h2, h3, h4, h5⟩; omega

