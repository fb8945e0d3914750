/-! The model: what a person does to it -/
theorem okF_of {f g : Nat → Int32} (h : okF f) (e0 : g 0 = f 0) (e1 : g 1 = f 1) (eo : ∀ p, p < nF f → oF g p 1 = oF f p 1) : okF g ∧ nF g = nF f := by
  have n1 : nF g = nF f := by unfold nF; rw [e1]
  have n0 : tF g = tF f := by unfold tF; rw [e0]
  refine ⟨⟨by rw [n1, e1]; exact h.1, by rw [n1]; exact h.2.1, by rw [n0, e0]; exact h.2.2.1, by rw [n0]; exact h.2.2.2.1, fun p hp => ?_⟩, n1⟩
  rw [n1] at hp
  unfold wF
  rw [eo p hp, n0]
  exact h.2.2.2.2 p hp
theorem isF_t {f : Nat → Int32} (h : okF f) {x : Int32} (hx : isF f x = true) : ∃ i, x = nI i ∧ i < tF f := by
  have ht := h.2.2.2.1
  unfold isF inR at hx
  rw [h.2.2.1] at hx
  simp only [Bool.and_eq_true, Bool.not_eq_true', decide_eq_false_iff_not] at hx
  obtain ⟨h1, h2⟩ := hx
  obtain ⟨j, hj, rfl⟩ := nI_of h1
  refine ⟨j, rfl, ?_⟩
  by_cases hz : tF f = 0
  · rw [hz, show (nI 0 - 1 : Int32) = -1 by decide] at h2
    rw [Int32.lt_iff_toInt_lt, nI_toInt hj, show (-1 : Int32).toInt = -1 by decide] at h2
    omega
  · rw [nI_p1 (by omega), nI_ltI (by omega) hj] at h2
    omega
theorem inR_t {x : Int32} {lo hi : Nat} (hl : hi < 2 ^ 31) (hx : inR x (nI lo) (nI hi) = true) (hlh : lo ≤ hi) : ∃ i, x = nI i ∧ lo ≤ i ∧ i ≤ hi := by
  unfold inR at hx
  simp only [Bool.and_eq_true, Bool.not_eq_true', decide_eq_false_iff_not] at hx
  obtain ⟨h1, h2⟩ := hx
  have h0 : ¬ x < 0 := by
    rw [Int32.lt_iff_toInt_lt, nI_toInt (by omega)] at h1
    rw [Int32.lt_iff_toInt_lt, show (0 : Int32).toInt = 0 by decide]
    omega
  obtain ⟨j, hj, rfl⟩ := nI_of h0
  rw [nI_ltI hj (by omega)] at h1
  rw [nI_ltI (by omega) hj] at h2
  exact ⟨j, rfl, by omega, by omega⟩
def asM (U : MV_) (x y : Int32) : MV_ × Int32 := if (inR x 0 9999 && inR y 0 999) = false then (mI U 2 1, 0) else if tF (U.2 0) = 6 then (mI U 2 2, 0) else
  (mR U 0 (upd (upd (upd (U.2 0) (9 + 2 * tF (U.2 0)) x) (9 + 2 * tF (U.2 0) + 1) y) 0 (nI (tF (U.2 0) + 1))), nI (tF (U.2 0)))
def caM (U : MV_) (x : Int32) : MV_ × Int32 := match plF (U.2 0) x (nF (U.2 0)) with
  | none => (mI U 2 1, 0)
  | some j => (mR U 0 (drF (U.2 0) (nF (U.2 0)) j), oF (U.2 0) j 4)
def opnM (U : MV_) : MV_ × Int32 := if U.2 0 4 = 1 then (mI U 2 1, 0) else (mR U 0 (upd (U.2 0) 4 1), U.2 0 1)
def voF (f : Nat → Int32) (n : Nat) (x : Int32) : Int32 := mmin (smF f true x 99 n) (smF f false 1 x n)
theorem fr_s {α : Type} (f : Nat → α → α) (n : Nat) (a : α) : fr f (n + 1) a = f n (fr f n a) := rfl
/-- one price of the pool: price, most, least -/
def poF (f : Nat → Int32) (n : Nat) (x : Int32) (a : Int32 × Int32 × Int32) : Int32 × Int32 × Int32 :=
  if a.2.1 < voF f n x ∨ (¬ voF f n x ≤ 0 ∧ voF f n x = a.2.1 ∧ mmax (smF f true x 99 n) (smF f false 1 x n) - voF f n x < a.2.2) then (x, voF f n x, mmax (smF f true x 99 n) (smF f false 1 x n) - voF f n x) else a
def poR (f : Nat → Int32) (n k : Nat) : Int32 × Int32 × Int32 := fr (fun j a => poF f n (nI (j + 1)) a) k (-1, 0, 0)
theorem po_s (f : Nat → Int32) (n k : Nat) : poR f n (k + 1) = poF f n (nI (k + 1)) (poR f n k) := by unfold poR; exact fr_s _ _ _
/-- a minute at one place, and all places -/
def psS (f : Nat → Int32) (p : Nat) : Nat → Int32 := upd f (21 + 6 * p + 5) (f (21 + 6 * p + 5) - if oF f p 5 ≤ 0 then 0 else 1)
def psI : Nat → Nat → (Nat → Int32) → Int32 → (Nat → Int32) × Int32
  | 0, _, f, x => (f, x)
  | v + 1, p, f, x => if nF f ≤ p then (f, x) else if oF f p 5 = 1 then psI v p (drF (psS f p) (nF f) p) (x + 1) else psI v (p + 1) (psS f p) (x + 0)
def tmS (f : Nat → Int32) : Nat → Int32 := upd f 3 (f 3 + 1)
def psG (a : (Nat → Int32) × Int32) : (Nat → Int32) × Int32 := psI 21 0 (tmS a.1) a.2
def psO (f : Nat → Int32) (n : Nat) : (Nat → Int32) × Int32 := fr (fun _ a => psG a) n (f, 0)
theorem ps_s (f : Nat → Int32) (n : Nat) : psO f (n + 1) = psG (psO f n) := by unfold psO; exact fr_s _ _ _
def psM (U : MV_) (x : Int32) : MV_ × Int32 := if inR x 1 60 = false then (mI U 2 1, 0) else (mR U 0 (psO (U.2 0) x.toNatClampNeg).1, (psO (U.2 0) x.toNatClampNeg).2)
theorem okF_ps {f : Nat → Int32} (h : okF f) (p : Nat) : okF (psS f p) ∧ nF (psS f p) = nF f :=
  okF_of h (pk_un (by omega)) (pk_un (by omega)) (fun q _ => by unfold oF psS; exact pk_un (by omega))
theorem okF_tm {f : Nat → Int32} (h : okF f) : okF (tmS f) ∧ nF (tmS f) = nF f :=
  okF_of h (pk_un (by omega)) (pk_un (by omega)) (fun q _ => by unfold oF tmS; exact pk_un (by omega))
theorem okF_pd {f : Nat → Int32} (h : okF f) {p : Nat} (hp : p < nF f) : okF (drF (psS f p) (nF f) p) ∧ nF (drF (psS f p) (nF f) p) = nF f - 1 := by
  have h1 := okF_ps h p
  have h2 := okF_dr h1.1 (q := p) (by rw [h1.2]; exact hp)
  rw [h1.2] at h2
  exact h2
theorem psI_z {f : Nat → Int32} {p : Nat} {x : Int32} (h : nF f ≤ p) : ∀ v, psI v p f x = (f, x)
  | 0 => rfl
  | v + 1 => if_pos h
theorem psI_t {f : Nat → Int32} {p v : Nat} {x : Int32} (h : p < nF f) (hv : 1 ≤ v) (hc : oF f p 5 = 1) : psI v p f x = psI (v - 1) p (drF (psS f p) (nF f) p) (x + 1) := by
  obtain ⟨v, rfl⟩ : ∃ w, v = w + 1 := ⟨v - 1, by omega⟩
  rw [psI, if_neg (by omega), if_pos hc]
  rfl
theorem psI_f {f : Nat → Int32} {p v : Nat} {x : Int32} (h : p < nF f) (hv : 1 ≤ v) (hc : ¬ oF f p 5 = 1) : psI v p f x = psI (v - 1) (p + 1) (psS f p) (x + 0) := by
  obtain ⟨v, rfl⟩ : ∃ w, v = w + 1 := ⟨v - 1, by omega⟩
  rw [psI, if_neg (by omega), if_neg hc]
  rfl
theorem psI_ok : ∀ {v p : Nat} {f : Nat → Int32} {x : Int32}, okF f → okF (psI v p f x).1 ∧ nF (psI v p f x).1 ≤ nF f
  | 0, p, f, x, h => ⟨h, Nat.le_refl _⟩
  | v + 1, p, f, x, h => by
    rw [psI]
    split
    · exact ⟨h, Nat.le_refl _⟩
    · rename_i hp
      split
      · have h1 := okF_pd h (p := p) (by omega)
        have h2 := psI_ok (v := v) (p := p) (x := x + 1) h1.1
        exact ⟨h2.1, by omega⟩
      · have h1 := okF_ps h p
        have h2 := psI_ok (v := v) (p := p + 1) (x := x + 0) h1.1
        exact ⟨h2.1, by omega⟩
theorem psO_ok {f : Nat → Int32} (h : okF f) : ∀ n, okF (psO f n).1
  | 0 => h
  | n + 1 => by rw [ps_s, psG]; exact (psI_ok (okF_tm (psO_ok h n)).1).1

set_option maxHeartbeats 4000000 in
set_option maxRecDepth 100000 in
theorem k12_doAddStall {l : Launch} {G : Gx} (hF : SF l G) {mo : Nat → Nat} {U : MV_} {X : va_W} (hok : okF (U.2 0)) (x y : Int32) : MI l G yX12_doAddStall cX12_doAddStall 4 .int 1 0 0 [.ref (mo 0), .int x, .int y] (moW G mo U ++ X) (fun r _ => r = (asM U x y).2) (fun _ : Unit => moW G mo (asM U x y).1 ++ X) := by
  refine mt_of hF (by decide) (Nat.le_of_ble_eq_true rfl) ?_
  intro p e s m below meth c C hin ls hl H locs hw
  have hl : lv_has ls 4 [(0, .ref (mo 0)), (1, .int x), (2, .int y)] := hl
  refine lv_aload_n C.1 C.2.1 dX12_doAddStall_0 rfl (lv_at hl 0 rfl) ?_
  refine r_get C hw 0 rfl rfl in_X12 0 (by decide) fl_X12_9 rfl (v := .ref (mo 1)) rfl dX12_doAddStall_1 ?_
  refine lv_iconst (v := 0) C.1 C.2.1 dX12_doAddStall_4 (by decide) ?_
  refine r_iald C hw 1 rfl (vp_in_nI (n := 0) (by omega) (by decide)) dX12_doAddStall_5 ?_
  refine r_toe (show _ = (U.2 0) 0 from congrArg (U.2 0) (nI_clamp (n := 0) (by omega))) ?_
  refine r_toe (show _ = nI (tF (U.2 0)) from hok.2.2.1) ?_
  refine lv_istore_n (lv' := [(3, .int (nI (tF (U.2 0)))), (0, .ref (mo 0)), (1, .int x), (2, .int y)]) C.1 C.2.1 dX12_doAddStall_6 rfl hl (by decide) rfl (fun ls hl => ?_)
  refine lv_iload_n C.1 C.2.1 dX12_doAddStall_7 rfl (lv_at hl 2 rfl) ?_
  refine lv_iconst (v := 0) C.1 C.2.1 dX12_doAddStall_8 (by decide) ?_
  refine lv_sipush (v := 9999) C.1 C.2.1 dX12_doAddStall_9 (by decide) ?_
  refine r_si C hw (k12_in hF (X := moW G mo U ++ X) x 0 9999) ml_X12_51 yf_X12_in (As := [.int x, .int 0, .int 9999]) rfl rfl ⟨Nat.le_of_ble_eq_true rfl, Nat.le_of_ble_eq_true rfl⟩ ⟨Nat.le_of_ble_eq_true rfl, Nat.le_of_ble_eq_true rfl⟩ hl.1 (Nat.le_of_ble_eq_true rfl) dX12_doAddStall_12 (fun r_12 _ H locs hp_12 hw => ?_)
  obtain rfl : r_12 = bI (inR x 0 9999) := hp_12
  replace hw : WH G s (moW G mo U ++ X) H locs := hw
  refine lv_if_eq (tgt := 29) C.1 C.2.1 dX12_doAddStall_15 (by decide) (fun c_15 => ?_) (fun c_15 => ?_)
  · have b_15 := bI_eq0.mp c_15
    refine lv_aload_n C.1 C.2.1 dX12_doAddStall_29 rfl (lv_at hl 1 rfl) ?_
    refine lv_iconst (v := 1) C.1 C.2.1 dX12_doAddStall_30 (by decide) ?_
    refine r_vi C hw (k12_fails hF (mo := mo) (U := U) (X := X) 1) ml_X12_90 yf_X12_fails 0 rfl rfl (As := [.int 1]) rfl rfl ⟨Nat.le_of_ble_eq_true rfl, Nat.le_of_ble_eq_true rfl⟩ ⟨Nat.le_of_ble_eq_true rfl, Nat.le_of_ble_eq_true rfl⟩ hl.1 (Nat.le_of_ble_eq_true rfl) dX12_doAddStall_31 (fun r_31 _ H locs hp_31 hw => ?_)
    obtain rfl : r_31 = 0 := hp_31
    replace hw : WH G s (moW G mo (mI U 2 1) ++ X) H locs := hw
    exact r_iret C hw rfl rfl () (by rw [asM, if_pos (by simp [b_15])]) (by rw [asM, if_pos (by simp [b_15])]) (Nat.le_of_ble_eq_true rfl) (Nat.le_of_ble_eq_true rfl) dX12_doAddStall_34
  · have b_15 := bI_ne0.mp c_15
    refine lv_iload_n C.1 C.2.1 dX12_doAddStall_18 rfl (lv_at hl 3 rfl) ?_
    refine lv_iconst (v := 0) C.1 C.2.1 dX12_doAddStall_19 (by decide) ?_
    refine lv_sipush (v := 999) C.1 C.2.1 dX12_doAddStall_20 (by decide) ?_
    refine r_si C hw (k12_in hF (X := moW G mo U ++ X) y 0 999) ml_X12_51 yf_X12_in (As := [.int y, .int 0, .int 999]) rfl rfl ⟨Nat.le_of_ble_eq_true rfl, Nat.le_of_ble_eq_true rfl⟩ ⟨Nat.le_of_ble_eq_true rfl, Nat.le_of_ble_eq_true rfl⟩ hl.1 (Nat.le_of_ble_eq_true rfl) dX12_doAddStall_23 (fun r_23 _ H locs hp_23 hw => ?_)
    obtain rfl : r_23 = bI (inR y 0 999) := hp_23
    replace hw : WH G s (moW G mo U ++ X) H locs := hw
    refine lv_if_ne (tgt := 35) C.1 C.2.1 dX12_doAddStall_26 (by decide) (fun c_26 => ?_) (fun c_26 => ?_)
    · have b_26 := bI_ne0.mp c_26
      refine lv_iload_n C.1 C.2.1 dX12_doAddStall_35 rfl (lv_at hl 0 rfl) ?_
      refine lv_bipush (v := 6) C.1 C.2.1 dX12_doAddStall_36 (by decide) ?_
      refine lv_icmp_ne (tgt := 47) C.1 C.2.1 dX12_doAddStall_38 (by decide) (fun c_38 => ?_) (fun c_38 => ?_)
      · have hq : ¬ tF (U.2 0) = 6 := fun q => c_38 (by rw [q]; rfl)
        have ht6 := hok.2.2.2.1
        refine lv_aload_n C.1 C.2.1 dX12_doAddStall_47 rfl (lv_at hl 1 rfl) ?_
        refine r_get C hw 0 rfl rfl in_X12 0 (by decide) fl_X12_9 rfl (v := .ref (mo 1)) rfl dX12_doAddStall_48 ?_
        refine lv_bipush (v := 9) C.1 C.2.1 dX12_doAddStall_51 (by decide) ?_
        refine lv_iconst (v := 2) C.1 C.2.1 dX12_doAddStall_53 (by decide) ?_
        refine lv_iload_n C.1 C.2.1 dX12_doAddStall_54 rfl (lv_at hl 0 rfl) ?_
        refine lv_imul C.1 C.2.1 dX12_doAddStall_55 ?_
        refine r_toe (pk_mul 2 (tF (U.2 0))) ?_
        refine lv_iadd C.1 C.2.1 dX12_doAddStall_56 ?_
        refine r_toe (nI_add 9 (2 * (tF (U.2 0)))) ?_
        refine lv_iload_n C.1 C.2.1 dX12_doAddStall_57 rfl (lv_at hl 2 rfl) ?_
        refine r_iast C hw 1 rfl (vp_in_nI (n := (9 + (2 * (tF (U.2 0))))) (by omega) (by decide)) (w' := moW G mo (mR U 0 (upd (U.2 0) (9 + (2 * (tF (U.2 0)))) x)) ++ X) (by rw [show (nI (9 + (2 * (tF (U.2 0))))).toNatClampNeg = (9 + (2 * (tF (U.2 0)))) from nI_clamp (by omega)]; rfl) dX12_doAddStall_58 (fun H locs hw => ?_)
        refine lv_aload_n C.1 C.2.1 dX12_doAddStall_59 rfl (lv_at hl 1 rfl) ?_
        refine r_get C hw 0 rfl rfl in_X12 0 (by decide) fl_X12_9 rfl (v := .ref (mo 1)) rfl dX12_doAddStall_60 ?_
        refine lv_bipush (v := 9) C.1 C.2.1 dX12_doAddStall_63 (by decide) ?_
        refine lv_iconst (v := 2) C.1 C.2.1 dX12_doAddStall_65 (by decide) ?_
        refine lv_iload_n C.1 C.2.1 dX12_doAddStall_66 rfl (lv_at hl 0 rfl) ?_
        refine lv_imul C.1 C.2.1 dX12_doAddStall_67 ?_
        refine r_toe (pk_mul 2 (tF (U.2 0))) ?_
        refine lv_iadd C.1 C.2.1 dX12_doAddStall_68 ?_
        refine r_toe (nI_add 9 (2 * (tF (U.2 0)))) ?_
        refine lv_iconst (v := 1) C.1 C.2.1 dX12_doAddStall_69 (by decide) ?_
        refine lv_iadd C.1 C.2.1 dX12_doAddStall_70 ?_
        refine r_toe (nI_add (9 + (2 * (tF (U.2 0)))) 1) ?_
        refine lv_iload_n C.1 C.2.1 dX12_doAddStall_71 rfl (lv_at hl 3 rfl) ?_
        refine r_iast C hw 1 rfl (vp_in_nI (n := ((9 + (2 * (tF (U.2 0)))) + 1)) (by omega) (by decide)) (w' := moW G mo (mR (mR U 0 (upd (U.2 0) (9 + (2 * (tF (U.2 0)))) x)) 0 (upd (upd (U.2 0) (9 + (2 * (tF (U.2 0)))) x) ((9 + (2 * (tF (U.2 0)))) + 1) y)) ++ X) (by rw [show (nI ((9 + (2 * (tF (U.2 0)))) + 1)).toNatClampNeg = ((9 + (2 * (tF (U.2 0)))) + 1) from nI_clamp (by omega)]; rfl) dX12_doAddStall_72 (fun H locs hw => ?_)
        refine lv_aload_n C.1 C.2.1 dX12_doAddStall_73 rfl (lv_at hl 1 rfl) ?_
        refine r_get C hw 0 rfl rfl in_X12 0 (by decide) fl_X12_9 rfl (v := .ref (mo 1)) rfl dX12_doAddStall_74 ?_
        refine lv_iconst (v := 0) C.1 C.2.1 dX12_doAddStall_77 (by decide) ?_
        refine lv_dup2_11 C.1 C.2.1 dX12_doAddStall_78 rfl rfl ?_
        refine r_iald C hw 1 rfl (vp_in_nI (n := 0) (by omega) (by decide)) dX12_doAddStall_79 ?_
        refine r_toe (show _ = (upd (upd (U.2 0) (9 + (2 * (tF (U.2 0)))) x) ((9 + (2 * (tF (U.2 0)))) + 1) y) 0 from congrArg (upd (upd (U.2 0) (9 + (2 * (tF (U.2 0)))) x) ((9 + (2 * (tF (U.2 0)))) + 1) y) (nI_clamp (n := 0) (by omega))) ?_
        refine r_toe (show _ = nI (tF (U.2 0)) from (pk_un (by omega)).trans ((pk_un (by omega)).trans hok.2.2.1)) ?_
        refine lv_iconst (v := 1) C.1 C.2.1 dX12_doAddStall_80 (by decide) ?_
        refine lv_iadd C.1 C.2.1 dX12_doAddStall_81 ?_
        refine r_toe (nI_add (tF (U.2 0)) 1) ?_
        refine r_iast C hw 1 rfl (vp_in_nI (n := 0) (by omega) (by decide)) (w' := moW G mo (mR (mR (mR U 0 (upd (U.2 0) (9 + (2 * (tF (U.2 0)))) x)) 0 (upd (upd (U.2 0) (9 + (2 * (tF (U.2 0)))) x) ((9 + (2 * (tF (U.2 0)))) + 1) y)) 0 (upd (upd (upd (U.2 0) (9 + (2 * (tF (U.2 0)))) x) ((9 + (2 * (tF (U.2 0)))) + 1) y) 0 (nI ((tF (U.2 0)) + 1)))) ++ X) rfl dX12_doAddStall_82 (fun H locs hw => ?_)
        refine lv_iload_n C.1 C.2.1 dX12_doAddStall_83 rfl (lv_at hl 0 rfl) ?_
        exact r_iret C hw rfl rfl () (by rw [asM, if_neg (by simp [b_15, b_26]), if_neg hq]) (by rw [asM, if_neg (by simp [b_15, b_26]), if_neg hq] <;> rfl) (Nat.le_of_ble_eq_true rfl) (Nat.le_of_ble_eq_true rfl) dX12_doAddStall_84
      · have hq : tF (U.2 0) = 6 := (nI_eq (b := 6) (by have := hok.2.2.2.1; omega) (by decide)).mp c_38
        refine lv_aload_n C.1 C.2.1 dX12_doAddStall_41 rfl (lv_at hl 1 rfl) ?_
        refine lv_iconst (v := 2) C.1 C.2.1 dX12_doAddStall_42 (by decide) ?_
        refine r_vi C hw (k12_fails hF (mo := mo) (U := U) (X := X) 2) ml_X12_90 yf_X12_fails 0 rfl rfl (As := [.int 2]) rfl rfl ⟨Nat.le_of_ble_eq_true rfl, Nat.le_of_ble_eq_true rfl⟩ ⟨Nat.le_of_ble_eq_true rfl, Nat.le_of_ble_eq_true rfl⟩ hl.1 (Nat.le_of_ble_eq_true rfl) dX12_doAddStall_43 (fun r_43 _ H locs hp_43 hw => ?_)
        obtain rfl : r_43 = 0 := hp_43
        replace hw : WH G s (moW G mo (mI U 2 2) ++ X) H locs := hw
        exact r_iret C hw rfl rfl () (by rw [asM, if_neg (by simp [b_15, b_26]), if_pos hq]) (by rw [asM, if_neg (by simp [b_15, b_26]), if_pos hq]) (Nat.le_of_ble_eq_true rfl) (Nat.le_of_ble_eq_true rfl) dX12_doAddStall_46
    · have b_26 := bI_eq0.mp c_26
      refine lv_aload_n C.1 C.2.1 dX12_doAddStall_29 rfl (lv_at hl 1 rfl) ?_
      refine lv_iconst (v := 1) C.1 C.2.1 dX12_doAddStall_30 (by decide) ?_
      refine r_vi C hw (k12_fails hF (mo := mo) (U := U) (X := X) 1) ml_X12_90 yf_X12_fails 0 rfl rfl (As := [.int 1]) rfl rfl ⟨Nat.le_of_ble_eq_true rfl, Nat.le_of_ble_eq_true rfl⟩ ⟨Nat.le_of_ble_eq_true rfl, Nat.le_of_ble_eq_true rfl⟩ hl.1 (Nat.le_of_ble_eq_true rfl) dX12_doAddStall_31 (fun r_31 _ H locs hp_31 hw => ?_)
      obtain rfl : r_31 = 0 := hp_31
      replace hw : WH G s (moW G mo (mI U 2 1) ++ X) H locs := hw
      exact r_iret C hw rfl rfl () (by rw [asM, if_pos (by simp [b_15, b_26])]) (by rw [asM, if_pos (by simp [b_15, b_26])]) (Nat.le_of_ble_eq_true rfl) (Nat.le_of_ble_eq_true rfl) dX12_doAddStall_34

set_option maxHeartbeats 4000000 in
set_option maxRecDepth 100000 in
theorem k12_doCancel {l : Launch} {G : Gx} (hF : SF l G) {mo : Nat → Nat} {U : MV_} {X : va_W} (hok : okF (U.2 0)) (x : Int32) : MI l G yX12_doCancel cX12_doCancel 4 .int 2 0 0 [.ref (mo 0), .int x] (moW G mo U ++ X) (fun r _ => r = (caM U x).2) (fun _ : Unit => moW G mo (caM U x).1 ++ X) := by
  refine mt_of hF (by decide) (Nat.le_of_ble_eq_true rfl) ?_
  intro p e s m below meth c C hin ls hl H locs hw
  have hl : lv_has ls 4 [(0, .ref (mo 0)), (1, .int x)] := hl
  refine lv_aload_n C.1 C.2.1 dX12_doCancel_0 rfl (lv_at hl 0 rfl) ?_
  refine lv_iload_n C.1 C.2.1 dX12_doCancel_1 rfl (lv_at hl 1 rfl) ?_
  refine r_vi C hw (k12_placeOf hF (mo := mo) (U := U) (X := X) (n := (nF (U.2 0))) hok.1 hok.2.1 x) ml_X12_117 yf_X12_placeOf 0 rfl rfl (As := [.int x]) rfl rfl ⟨Nat.le_of_ble_eq_true rfl, Nat.le_of_ble_eq_true rfl⟩ ⟨Nat.le_of_ble_eq_true rfl, Nat.le_of_ble_eq_true rfl⟩ hl.1 (Nat.le_of_ble_eq_true rfl) dX12_doCancel_2 (fun r_2 _ H locs hp_2 hw => ?_)
  obtain rfl : r_2 = oI (plF (U.2 0) x (nF (U.2 0))) := hp_2
  replace hw : WH G s (moW G mo U ++ X) H locs := hw
  refine lv_istore_n (lv' := [(2, .int (oI (plF (U.2 0) x (nF (U.2 0))))), (0, .ref (mo 0)), (1, .int x)]) C.1 C.2.1 dX12_doCancel_5 rfl hl (by decide) rfl (fun ls hl => ?_)
  refine lv_iload_n C.1 C.2.1 dX12_doCancel_6 rfl (lv_at hl 0 rfl) ?_
  refine lv_if_ge (tgt := 16) C.1 C.2.1 dX12_doCancel_7 (by decide) (fun c_7 => ?_) (fun c_7 => ?_)
  · obtain ⟨j, ho⟩ : ∃ j, plF (U.2 0) x (nF (U.2 0)) = some j := by cases hq : plF (U.2 0) x (nF (U.2 0)) with | none => rw [hq] at c_7; exact absurd c_7 (by decide) | some j => exact ⟨j, rfl⟩
    have hj := (lst_lt ho).1
    have hn := hok.2.1
    replace hl : lv_has ls 4 [(2, .int (nI j)), (0, .ref (mo 0)), (1, .int x)] := hl.to_eq (by rw [ho]; rfl)
    refine lv_aload_n C.1 C.2.1 dX12_doCancel_16 rfl (lv_at hl 1 rfl) ?_
    refine lv_iload_n C.1 C.2.1 dX12_doCancel_17 rfl (lv_at hl 0 rfl) ?_
    refine lv_iconst (v := 4) C.1 C.2.1 dX12_doCancel_18 (by decide) ?_
    refine r_vi C hw (k12_of hF (mo := mo) (U := U) (X := X) (i := j) (k := 4) (by omega) (by omega)) ml_X12_55 yf_X12_of 0 rfl rfl (As := [.int (nI j), .int 4]) rfl rfl ⟨Nat.le_of_ble_eq_true rfl, Nat.le_of_ble_eq_true rfl⟩ ⟨Nat.le_of_ble_eq_true rfl, Nat.le_of_ble_eq_true rfl⟩ hl.1 (Nat.le_of_ble_eq_true rfl) dX12_doCancel_19 (fun r_19 _ H locs hp_19 hw => ?_)
    obtain rfl : r_19 = oF (U.2 0) j 4 := hp_19
    replace hw : WH G s (moW G mo U ++ X) H locs := hw
    refine lv_istore_n (lv' := [(3, .int (oF (U.2 0) j 4)), (2, .int (nI j)), (0, .ref (mo 0)), (1, .int x)]) C.1 C.2.1 dX12_doCancel_22 rfl hl (by decide) rfl (fun ls hl => ?_)
    refine lv_aload_n C.1 C.2.1 dX12_doCancel_23 rfl (lv_at hl 2 rfl) ?_
    refine lv_iload_n C.1 C.2.1 dX12_doCancel_24 rfl (lv_at hl 1 rfl) ?_
    refine r_vv C hw (k12_drops hF (mo := mo) (U := U) (X := X) (n := (nF (U.2 0))) hok.1 hok.2.1 (q := j) hj) ml_X12_66 yf_X12_drops 0 rfl rfl (As := [.int (nI j)]) rfl rfl ⟨Nat.le_of_ble_eq_true rfl, Nat.le_of_ble_eq_true rfl⟩ ⟨Nat.le_of_ble_eq_true rfl, Nat.le_of_ble_eq_true rfl⟩ hl.1 (Nat.le_of_ble_eq_true rfl) dX12_doCancel_25 (fun _ H locs hp_25 hw => ?_)
    replace hw : WH G s (moW G mo (mR U 0 (drF (U.2 0) (nF (U.2 0)) j)) ++ X) H locs := hw
    refine lv_iload_n C.1 C.2.1 dX12_doCancel_28 rfl (lv_at hl 0 rfl) ?_
    exact r_iret C hw rfl rfl () (by rw [caM, ho]) (by rw [caM, ho]) (Nat.le_of_ble_eq_true rfl) (Nat.le_of_ble_eq_true rfl) dX12_doCancel_29
  · have ho : plF (U.2 0) x (nF (U.2 0)) = none := by cases hq : plF (U.2 0) x (nF (U.2 0)) with | none => rfl | some j => rw [hq] at c_7; exact absurd (show (0 : Int32) ≤ nI j from nI_pos' (by have := (lst_lt hq).1; have := hok.2.1; omega)) c_7
    refine lv_aload_n C.1 C.2.1 dX12_doCancel_10 rfl (lv_at hl 1 rfl) ?_
    refine lv_iconst (v := 1) C.1 C.2.1 dX12_doCancel_11 (by decide) ?_
    refine r_vi C hw (k12_fails hF (mo := mo) (U := U) (X := X) 1) ml_X12_90 yf_X12_fails 0 rfl rfl (As := [.int 1]) rfl rfl ⟨Nat.le_of_ble_eq_true rfl, Nat.le_of_ble_eq_true rfl⟩ ⟨Nat.le_of_ble_eq_true rfl, Nat.le_of_ble_eq_true rfl⟩ hl.1 (Nat.le_of_ble_eq_true rfl) dX12_doCancel_12 (fun r_12 _ H locs hp_12 hw => ?_)
    obtain rfl : r_12 = 0 := hp_12
    replace hw : WH G s (moW G mo (mI U 2 1) ++ X) H locs := hw
    exact r_iret C hw rfl rfl () (by rw [caM, ho]) (by rw [caM, ho]) (Nat.le_of_ble_eq_true rfl) (Nat.le_of_ble_eq_true rfl) dX12_doCancel_15

set_option maxHeartbeats 4000000 in
set_option maxRecDepth 100000 in
theorem k12_doOpen {l : Launch} {G : Gx} (hF : SF l G) {mo : Nat → Nat} {U : MV_} {X : va_W} : MI l G yX12_doOpen cX12_doOpen 1 .int 1 0 0 [.ref (mo 0)] (moW G mo U ++ X) (fun r _ => r = (opnM U).2) (fun _ : Unit => moW G mo (opnM U).1 ++ X) := by
  refine mt_of hF (by decide) (Nat.le_of_ble_eq_true rfl) ?_
  intro p e s m below meth c C hin ls hl H locs hw
  have hl : lv_has ls 1 [(0, .ref (mo 0))] := hl
  refine lv_aload_n C.1 C.2.1 dX12_doOpen_0 rfl (lv_at hl 0 rfl) ?_
  refine r_get C hw 0 rfl rfl in_X12 0 (by decide) fl_X12_9 rfl (v := .ref (mo 1)) rfl dX12_doOpen_1 ?_
  refine lv_iconst (v := 4) C.1 C.2.1 dX12_doOpen_4 (by decide) ?_
  refine r_iald C hw 1 rfl (vp_in_nI (n := 4) (by omega) (by decide)) dX12_doOpen_5 ?_
  refine r_toe (show _ = (U.2 0) 4 from congrArg (U.2 0) (nI_clamp (n := 4) (by omega))) ?_
  refine lv_iconst (v := 1) C.1 C.2.1 dX12_doOpen_6 (by decide) ?_
  refine lv_icmp_ne (tgt := 16) C.1 C.2.1 dX12_doOpen_7 (by decide) (fun c_7 => ?_) (fun c_7 => ?_)
  · refine lv_aload_n C.1 C.2.1 dX12_doOpen_16 rfl (lv_at hl 0 rfl) ?_
    refine r_get C hw 0 rfl rfl in_X12 0 (by decide) fl_X12_9 rfl (v := .ref (mo 1)) rfl dX12_doOpen_17 ?_
    refine lv_iconst (v := 4) C.1 C.2.1 dX12_doOpen_20 (by decide) ?_
    refine lv_iconst (v := 1) C.1 C.2.1 dX12_doOpen_21 (by decide) ?_
    refine r_iast C hw 1 rfl (vp_in_nI (n := 4) (by omega) (by decide)) (w' := moW G mo (mR U 0 (upd (U.2 0) 4 1)) ++ X) rfl dX12_doOpen_22 (fun H locs hw => ?_)
    refine lv_aload_n C.1 C.2.1 dX12_doOpen_23 rfl (lv_at hl 0 rfl) ?_
    refine r_get C hw 0 rfl rfl in_X12 0 (by decide) fl_X12_9 rfl (v := .ref (mo 1)) rfl dX12_doOpen_24 ?_
    refine lv_iconst (v := 1) C.1 C.2.1 dX12_doOpen_27 (by decide) ?_
    refine r_iald C hw 1 rfl (vp_in_nI (n := 1) (by omega) (by decide)) dX12_doOpen_28 ?_
    refine r_toe (show _ = (upd (U.2 0) 4 1) 1 from congrArg (upd (U.2 0) 4 1) (nI_clamp (n := 1) (by omega))) ?_
    exact r_iret C hw rfl rfl () (by rw [opnM, if_neg c_7]; rfl) (by rw [opnM, if_neg c_7]) (Nat.le_of_ble_eq_true rfl) (Nat.le_of_ble_eq_true rfl) dX12_doOpen_29
  · refine lv_aload_n C.1 C.2.1 dX12_doOpen_10 rfl (lv_at hl 0 rfl) ?_
    refine lv_iconst (v := 1) C.1 C.2.1 dX12_doOpen_11 (by decide) ?_
    refine r_vi C hw (k12_fails hF (mo := mo) (U := U) (X := X) 1) ml_X12_90 yf_X12_fails 0 rfl rfl (As := [.int 1]) rfl rfl ⟨Nat.le_of_ble_eq_true rfl, Nat.le_of_ble_eq_true rfl⟩ ⟨Nat.le_of_ble_eq_true rfl, Nat.le_of_ble_eq_true rfl⟩ hl.1 (Nat.le_of_ble_eq_true rfl) dX12_doOpen_12 (fun r_12 _ H locs hp_12 hw => ?_)
    obtain rfl : r_12 = 0 := hp_12
    replace hw : WH G s (moW G mo (mI U 2 1) ++ X) H locs := hw
    exact r_iret C hw rfl rfl () (by rw [opnM, if_pos c_7]) (by rw [opnM, if_pos c_7]) (Nat.le_of_ble_eq_true rfl) (Nat.le_of_ble_eq_true rfl) dX12_doOpen_15

set_option maxHeartbeats 4000000 in
set_option maxRecDepth 100000 in
theorem k12_volume {l : Launch} {G : Gx} (hF : SF l G) {mo : Nat → Nat} {U : MV_} {X : va_W} {n : Nat} (hn1 : U.2 0 1 = nI n) (hn : n ≤ 20) (x : Int32) : MI l G yX12_volume cX12_volume 2 .int 3 0 0 [.ref (mo 0), .int x] (moW G mo U ++ X) (fun r _ => r = voF (U.2 0) n x) (fun _ : Unit => moW G mo U ++ X) := by
  refine mt_of hF (by decide) (Nat.le_of_ble_eq_true rfl) ?_
  intro p e s m below meth c C hin ls hl H locs hw
  have hl : lv_has ls 2 [(0, .ref (mo 0)), (1, .int x)] := hl
  refine lv_aload_n C.1 C.2.1 dX12_volume_0 rfl (lv_at hl 0 rfl) ?_
  refine lv_iconst (v := 1) C.1 C.2.1 dX12_volume_1 (by decide) ?_
  refine lv_iload_n C.1 C.2.1 dX12_volume_2 rfl (lv_at hl 1 rfl) ?_
  refine lv_bipush (v := 99) C.1 C.2.1 dX12_volume_3 (by decide) ?_
  refine r_vi C hw (k12_sum hF (mo := mo) (U := U) (X := X) (n := n) hn1 hn true x 99) ml_X12_158 yf_X12_sum 0 rfl rfl (As := [.int 1, .int x, .int 99]) rfl rfl ⟨Nat.le_of_ble_eq_true rfl, Nat.le_of_ble_eq_true rfl⟩ ⟨Nat.le_of_ble_eq_true rfl, Nat.le_of_ble_eq_true rfl⟩ hl.1 (Nat.le_of_ble_eq_true rfl) dX12_volume_5 (fun r_5 _ H locs hp_5 hw => ?_)
  obtain rfl : r_5 = smF (U.2 0) true x 99 n := hp_5
  replace hw : WH G s (moW G mo U ++ X) H locs := hw
  refine lv_aload_n C.1 C.2.1 dX12_volume_8 rfl (lv_at hl 0 rfl) ?_
  refine lv_iconst (v := 0) C.1 C.2.1 dX12_volume_9 (by decide) ?_
  refine lv_iconst (v := 1) C.1 C.2.1 dX12_volume_10 (by decide) ?_
  refine lv_iload_n C.1 C.2.1 dX12_volume_11 rfl (lv_at hl 1 rfl) ?_
  refine r_vi C hw (k12_sum hF (mo := mo) (U := U) (X := X) (n := n) hn1 hn false 1 x) ml_X12_158 yf_X12_sum 0 rfl rfl (As := [.int 0, .int 1, .int x]) rfl rfl ⟨Nat.le_of_ble_eq_true rfl, Nat.le_of_ble_eq_true rfl⟩ ⟨Nat.le_of_ble_eq_true rfl, Nat.le_of_ble_eq_true rfl⟩ hl.1 (Nat.le_of_ble_eq_true rfl) dX12_volume_12 (fun r_12 _ H locs hp_12 hw => ?_)
  obtain rfl : r_12 = smF (U.2 0) false 1 x n := hp_12
  replace hw : WH G s (moW G mo U ++ X) H locs := hw
  refine r_mmin C ml_X12_74 hl.1 (Nat.le_of_ble_eq_true rfl) (Nat.le_of_ble_eq_true rfl) (Nat.le_of_ble_eq_true rfl) (Nat.le_of_ble_eq_true rfl) dX12_volume_15 ?_
  exact r_iret C hw rfl rfl () (rfl) rfl (Nat.le_of_ble_eq_true rfl) (Nat.le_of_ble_eq_true rfl) dX12_volume_18

set_option maxHeartbeats 4000000 in
set_option maxRecDepth 100000 in
theorem k12_pool {l : Launch} {G : Gx} (hF : SF l G) {mo : Nat → Nat} {U : MV_} {X : va_W} {n : Nat} (hn1 : U.2 0 1 = nI n) (hn : n ≤ 20) : MI l G yX12_pool cX12_pool 9 .int 3 0 0 [.ref (mo 0)] (moW G mo U ++ X) (fun r _ => r = (poR (U.2 0) n 99).1) (fun _ : Unit => moW G mo U ++ X) := by
  refine mt_of hF (by decide) (Nat.le_of_ble_eq_true rfl) ?_
  intro p e s m below meth c C hin ls hl H locs hw
  have hl : lv_has ls 9 [(0, .ref (mo 0))] := hl
  refine lv_iconst (v := -1) C.1 C.2.1 dX12_pool_0 (by decide) ?_
  refine lv_istore_n (lv' := [(1, .int (-1)), (0, .ref (mo 0))]) C.1 C.2.1 dX12_pool_1 rfl hl (by decide) rfl (fun ls hl => ?_)
  refine lv_iconst (v := 0) C.1 C.2.1 dX12_pool_2 (by decide) ?_
  refine lv_istore_n (lv' := [(2, .int 0), (1, .int (-1)), (0, .ref (mo 0))]) C.1 C.2.1 dX12_pool_3 rfl hl (by decide) rfl (fun ls hl => ?_)
  refine lv_iconst (v := 0) C.1 C.2.1 dX12_pool_4 (by decide) ?_
  refine lv_istore_n (lv' := [(3, .int 0), (2, .int 0), (1, .int (-1)), (0, .ref (mo 0))]) C.1 C.2.1 dX12_pool_5 rfl hl (by decide) rfl (fun ls hl => ?_)
  refine lv_iconst (v := 1) C.1 C.2.1 dX12_pool_6 (by decide) ?_
  refine lv_istore (lv' := [(4, .int 1), (3, .int 0), (2, .int 0), (1, .int (-1)), (0, .ref (mo 0))]) C.1 C.2.1 dX12_pool_7 hl (by decide) rfl (fun ls hl => ?_)
  refine w_loop (σ := Nat × Int32 × Int32 × Int32) G (fun u ⟨k, a, v, u1⟩ => k ≤ 99 ∧ 99 < k + u ∧ (a, v, u1) = poR (U.2 0) n k) (fun ⟨k, a, v, u1⟩ => moW G mo U ++ X) (fun ⟨k, a, v, u1⟩ => 0) (fun ⟨k, a, v, u1⟩ => 0) (fun ⟨k, a, v, u1⟩ => [(0, .ref (mo 0)), (1, .int a), (2, .int v), (3, .int u1), (4, .int (nI (k + 1)))]) 9 ?_ ?_ 100 (0, -1, 0, 0) (⟨Nat.zero_le _, by omega, rfl⟩) hw (lv_sub hl [4, 3, 2, 1, 0] rfl)
  · rintro n9 ⟨k, a, v, u1⟩ ⟨h1, h2, h3⟩ ih9 H locs hw ls hl
    replace hw : WH G s (moW G mo U ++ X) H locs := hw
    replace hl : lv_has ls 9 [(0, .ref (mo 0)), (1, .int a), (2, .int v), (3, .int u1), (4, .int (nI (k + 1)))] := hl
    refine lv_iload C.1 C.2.1 dX12_pool_9 (lv_at hl 4 rfl) ?_
    refine lv_bipush (v := 99) C.1 C.2.1 dX12_pool_11 (by decide) ?_
    refine lv_icmp_gt (tgt := 96) C.1 C.2.1 dX12_pool_13 (by decide) (fun c_13 => ?_) (fun c_13 => ?_)
    · obtain rfl : k = 99 := by rw [Int32.lt_iff_toInt_lt, nI_toInt (by omega), show (99 : Int32).toInt = 99 by decide] at c_13; omega
      refine lv_iload_n C.1 C.2.1 dX12_pool_96 rfl (lv_at hl 1 rfl) ?_
      exact r_iret C hw rfl rfl () (by rw [← h3]) rfl (Nat.le_of_ble_eq_true rfl) (Nat.le_of_ble_eq_true rfl) dX12_pool_97
    · have hk : k < 99 := by rw [Int32.lt_iff_toInt_lt, nI_toInt (by omega), show (99 : Int32).toInt = 99 by decide] at c_13; omega
      refine lv_aload_n C.1 C.2.1 dX12_pool_16 rfl (lv_at hl 0 rfl) ?_
      refine lv_iconst (v := 1) C.1 C.2.1 dX12_pool_17 (by decide) ?_
      refine lv_iload C.1 C.2.1 dX12_pool_18 (lv_at hl 4 rfl) ?_
      refine lv_bipush (v := 99) C.1 C.2.1 dX12_pool_20 (by decide) ?_
      refine r_vi C hw (k12_sum hF (mo := mo) (U := U) (X := X) (n := n) hn1 hn true (nI (k + 1)) 99) ml_X12_158 yf_X12_sum 0 rfl rfl (As := [.int 1, .int (nI (k + 1)), .int 99]) rfl rfl ⟨Nat.le_of_ble_eq_true rfl, Nat.le_of_ble_eq_true rfl⟩ ⟨Nat.le_of_ble_eq_true rfl, Nat.le_of_ble_eq_true rfl⟩ hl.1 (Nat.le_of_ble_eq_true rfl) dX12_pool_22 (fun r_22 _ H locs hp_22 hw => ?_)
      obtain rfl : r_22 = smF (U.2 0) true (nI (k + 1)) 99 n := hp_22
      replace hw : WH G s (moW G mo U ++ X) H locs := hw
      refine lv_istore (lv' := [(5, .int (smF (U.2 0) true (nI (k + 1)) 99 n)), (0, .ref (mo 0)), (1, .int a), (2, .int v), (3, .int u1), (4, .int (nI (k + 1)))]) C.1 C.2.1 dX12_pool_25 hl (by decide) rfl (fun ls hl => ?_)
      refine lv_aload_n C.1 C.2.1 dX12_pool_27 rfl (lv_at hl 1 rfl) ?_
      refine lv_iconst (v := 0) C.1 C.2.1 dX12_pool_28 (by decide) ?_
      refine lv_iconst (v := 1) C.1 C.2.1 dX12_pool_29 (by decide) ?_
      refine lv_iload C.1 C.2.1 dX12_pool_30 (lv_at hl 5 rfl) ?_
      refine r_vi C hw (k12_sum hF (mo := mo) (U := U) (X := X) (n := n) hn1 hn false 1 (nI (k + 1))) ml_X12_158 yf_X12_sum 0 rfl rfl (As := [.int 0, .int 1, .int (nI (k + 1))]) rfl rfl ⟨Nat.le_of_ble_eq_true rfl, Nat.le_of_ble_eq_true rfl⟩ ⟨Nat.le_of_ble_eq_true rfl, Nat.le_of_ble_eq_true rfl⟩ hl.1 (Nat.le_of_ble_eq_true rfl) dX12_pool_32 (fun r_32 _ H locs hp_32 hw => ?_)
      obtain rfl : r_32 = smF (U.2 0) false 1 (nI (k + 1)) n := hp_32
      replace hw : WH G s (moW G mo U ++ X) H locs := hw
      refine lv_istore (lv' := [(6, .int (smF (U.2 0) false 1 (nI (k + 1)) n)), (5, .int (smF (U.2 0) true (nI (k + 1)) 99 n)), (0, .ref (mo 0)), (1, .int a), (2, .int v), (3, .int u1), (4, .int (nI (k + 1)))]) C.1 C.2.1 dX12_pool_35 hl (by decide) rfl (fun ls hl => ?_)
      refine lv_iload C.1 C.2.1 dX12_pool_37 (lv_at hl 1 rfl) ?_
      refine lv_iload C.1 C.2.1 dX12_pool_39 (lv_at hl 0 rfl) ?_
      refine r_mmin C ml_X12_74 hl.1 (Nat.le_of_ble_eq_true rfl) (Nat.le_of_ble_eq_true rfl) (Nat.le_of_ble_eq_true rfl) (Nat.le_of_ble_eq_true rfl) dX12_pool_41 ?_
      refine lv_istore (lv' := [(7, .int (mmin (smF (U.2 0) true (nI (k + 1)) 99 n) (smF (U.2 0) false 1 (nI (k + 1)) n))), (6, .int (smF (U.2 0) false 1 (nI (k + 1)) n)), (5, .int (smF (U.2 0) true (nI (k + 1)) 99 n)), (0, .ref (mo 0)), (1, .int a), (2, .int v), (3, .int u1), (4, .int (nI (k + 1)))]) C.1 C.2.1 dX12_pool_44 hl (by decide) rfl (fun ls hl => ?_)
      refine lv_iload C.1 C.2.1 dX12_pool_46 (lv_at hl 2 rfl) ?_
      refine lv_iload C.1 C.2.1 dX12_pool_48 (lv_at hl 1 rfl) ?_
      refine r_mmax C ml_X12_136 hl.1 (Nat.le_of_ble_eq_true rfl) (Nat.le_of_ble_eq_true rfl) (Nat.le_of_ble_eq_true rfl) (Nat.le_of_ble_eq_true rfl) dX12_pool_50 ?_
      refine lv_iload C.1 C.2.1 dX12_pool_53 (lv_at hl 0 rfl) ?_
      refine lv_isub C.1 C.2.1 dX12_pool_55 ?_
      refine lv_istore (lv' := [(8, .int ((mmax (smF (U.2 0) true (nI (k + 1)) 99 n) (smF (U.2 0) false 1 (nI (k + 1)) n)) - (mmin (smF (U.2 0) true (nI (k + 1)) 99 n) (smF (U.2 0) false 1 (nI (k + 1)) n)))), (7, .int (mmin (smF (U.2 0) true (nI (k + 1)) 99 n) (smF (U.2 0) false 1 (nI (k + 1)) n))), (6, .int (smF (U.2 0) false 1 (nI (k + 1)) n)), (5, .int (smF (U.2 0) true (nI (k + 1)) 99 n)), (0, .ref (mo 0)), (1, .int a), (2, .int v), (3, .int u1), (4, .int (nI (k + 1)))]) C.1 C.2.1 dX12_pool_56 hl (by decide) rfl (fun ls hl => ?_)
      refine lv_iload C.1 C.2.1 dX12_pool_58 (lv_at hl 1 rfl) ?_
      refine lv_iload_n C.1 C.2.1 dX12_pool_60 rfl (lv_at hl 6 rfl) ?_
      refine lv_icmp_gt (tgt := 81) C.1 C.2.1 dX12_pool_61 (by decide) (fun c_61 => ?_) (fun c_61 => ?_)
      · refine lv_iload C.1 C.2.1 dX12_pool_81 (lv_at hl 8 rfl) ?_
        refine lv_istore_n (lv' := [(1, .int (nI (k + 1))), (8, .int ((mmax (smF (U.2 0) true (nI (k + 1)) 99 n) (smF (U.2 0) false 1 (nI (k + 1)) n)) - (mmin (smF (U.2 0) true (nI (k + 1)) 99 n) (smF (U.2 0) false 1 (nI (k + 1)) n)))), (7, .int (mmin (smF (U.2 0) true (nI (k + 1)) 99 n) (smF (U.2 0) false 1 (nI (k + 1)) n))), (6, .int (smF (U.2 0) false 1 (nI (k + 1)) n)), (5, .int (smF (U.2 0) true (nI (k + 1)) 99 n)), (0, .ref (mo 0)), (2, .int v), (3, .int u1), (4, .int (nI (k + 1)))]) C.1 C.2.1 dX12_pool_83 rfl hl (by decide) rfl (fun ls hl => ?_)
        refine lv_iload C.1 C.2.1 dX12_pool_84 (lv_at hl 2 rfl) ?_
        refine lv_istore_n (lv' := [(2, .int (mmin (smF (U.2 0) true (nI (k + 1)) 99 n) (smF (U.2 0) false 1 (nI (k + 1)) n))), (1, .int (nI (k + 1))), (8, .int ((mmax (smF (U.2 0) true (nI (k + 1)) 99 n) (smF (U.2 0) false 1 (nI (k + 1)) n)) - (mmin (smF (U.2 0) true (nI (k + 1)) 99 n) (smF (U.2 0) false 1 (nI (k + 1)) n)))), (7, .int (mmin (smF (U.2 0) true (nI (k + 1)) 99 n) (smF (U.2 0) false 1 (nI (k + 1)) n))), (6, .int (smF (U.2 0) false 1 (nI (k + 1)) n)), (5, .int (smF (U.2 0) true (nI (k + 1)) 99 n)), (0, .ref (mo 0)), (3, .int u1), (4, .int (nI (k + 1)))]) C.1 C.2.1 dX12_pool_86 rfl hl (by decide) rfl (fun ls hl => ?_)
        refine lv_iload C.1 C.2.1 dX12_pool_87 (lv_at hl 2 rfl) ?_
        refine lv_istore_n (lv' := [(3, .int ((mmax (smF (U.2 0) true (nI (k + 1)) 99 n) (smF (U.2 0) false 1 (nI (k + 1)) n)) - (mmin (smF (U.2 0) true (nI (k + 1)) 99 n) (smF (U.2 0) false 1 (nI (k + 1)) n)))), (2, .int (mmin (smF (U.2 0) true (nI (k + 1)) 99 n) (smF (U.2 0) false 1 (nI (k + 1)) n))), (1, .int (nI (k + 1))), (8, .int ((mmax (smF (U.2 0) true (nI (k + 1)) 99 n) (smF (U.2 0) false 1 (nI (k + 1)) n)) - (mmin (smF (U.2 0) true (nI (k + 1)) 99 n) (smF (U.2 0) false 1 (nI (k + 1)) n)))), (7, .int (mmin (smF (U.2 0) true (nI (k + 1)) 99 n) (smF (U.2 0) false 1 (nI (k + 1)) n))), (6, .int (smF (U.2 0) false 1 (nI (k + 1)) n)), (5, .int (smF (U.2 0) true (nI (k + 1)) 99 n)), (0, .ref (mo 0)), (4, .int (nI (k + 1)))]) C.1 C.2.1 dX12_pool_89 rfl hl (by decide) rfl (fun ls hl => ?_)
        refine lv_iinc (v := nI (k + 1 + 1)) (lv' := [(4, .int (nI (k + 1 + 1))), (3, .int ((mmax (smF (U.2 0) true (nI (k + 1)) 99 n) (smF (U.2 0) false 1 (nI (k + 1)) n)) - (mmin (smF (U.2 0) true (nI (k + 1)) 99 n) (smF (U.2 0) false 1 (nI (k + 1)) n)))), (2, .int (mmin (smF (U.2 0) true (nI (k + 1)) 99 n) (smF (U.2 0) false 1 (nI (k + 1)) n))), (1, .int (nI (k + 1))), (8, .int ((mmax (smF (U.2 0) true (nI (k + 1)) 99 n) (smF (U.2 0) false 1 (nI (k + 1)) n)) - (mmin (smF (U.2 0) true (nI (k + 1)) 99 n) (smF (U.2 0) false 1 (nI (k + 1)) n)))), (7, .int (mmin (smF (U.2 0) true (nI (k + 1)) 99 n) (smF (U.2 0) false 1 (nI (k + 1)) n))), (6, .int (smF (U.2 0) false 1 (nI (k + 1)) n)), (5, .int (smF (U.2 0) true (nI (k + 1)) 99 n)), (0, .ref (mo 0))]) C.1 C.2.1 dX12_pool_90 hl (k := 8) rfl (inc_nI (k + 1)) (by decide) rfl (fun ls hl => ?_)
        refine lv_goto (tgt := 9) C.1 C.2.1 dX12_pool_93 (by decide) ?_
        exact ih9 (k + 1, (nI (k + 1)), (mmin (smF (U.2 0) true (nI (k + 1)) 99 n) (smF (U.2 0) false 1 (nI (k + 1)) n)), ((mmax (smF (U.2 0) true (nI (k + 1)) 99 n) (smF (U.2 0) false 1 (nI (k + 1)) n)) - (mmin (smF (U.2 0) true (nI (k + 1)) 99 n) (smF (U.2 0) false 1 (nI (k + 1)) n)))) (⟨by omega, by omega, by rw [po_s, ← h3]; exact (if_pos (Or.inl c_61)).symm⟩) _ _ hw _ (lv_sub hl [8, 3, 2, 1, 0] rfl)
      · refine lv_iload C.1 C.2.1 dX12_pool_64 (lv_at hl 1 rfl) ?_
        refine lv_if_le (tgt := 90) C.1 C.2.1 dX12_pool_66 (by decide) (fun c_66 => ?_) (fun c_66 => ?_)
        · refine lv_iinc (v := nI (k + 1 + 1)) (lv' := [(4, .int (nI (k + 1 + 1))), (8, .int ((mmax (smF (U.2 0) true (nI (k + 1)) 99 n) (smF (U.2 0) false 1 (nI (k + 1)) n)) - (mmin (smF (U.2 0) true (nI (k + 1)) 99 n) (smF (U.2 0) false 1 (nI (k + 1)) n)))), (7, .int (mmin (smF (U.2 0) true (nI (k + 1)) 99 n) (smF (U.2 0) false 1 (nI (k + 1)) n))), (6, .int (smF (U.2 0) false 1 (nI (k + 1)) n)), (5, .int (smF (U.2 0) true (nI (k + 1)) 99 n)), (0, .ref (mo 0)), (1, .int a), (2, .int v), (3, .int u1)]) C.1 C.2.1 dX12_pool_90 hl (k := 8) rfl (inc_nI (k + 1)) (by decide) rfl (fun ls hl => ?_)
          refine lv_goto (tgt := 9) C.1 C.2.1 dX12_pool_93 (by decide) ?_
          exact ih9 (k + 1, a, v, u1) (⟨by omega, by omega, by rw [po_s, ← h3]; exact (if_neg (fun h => h.elim c_61 (fun q => q.1 c_66))).symm⟩) _ _ hw _ (lv_sub hl [5, 6, 7, 8, 0] rfl)
        · refine lv_iload C.1 C.2.1 dX12_pool_69 (lv_at hl 1 rfl) ?_
          refine lv_iload_n C.1 C.2.1 dX12_pool_71 rfl (lv_at hl 6 rfl) ?_
          refine lv_icmp_ne (tgt := 90) C.1 C.2.1 dX12_pool_72 (by decide) (fun c_72 => ?_) (fun c_72 => ?_)
          · refine lv_iinc (v := nI (k + 1 + 1)) (lv' := [(4, .int (nI (k + 1 + 1))), (8, .int ((mmax (smF (U.2 0) true (nI (k + 1)) 99 n) (smF (U.2 0) false 1 (nI (k + 1)) n)) - (mmin (smF (U.2 0) true (nI (k + 1)) 99 n) (smF (U.2 0) false 1 (nI (k + 1)) n)))), (7, .int (mmin (smF (U.2 0) true (nI (k + 1)) 99 n) (smF (U.2 0) false 1 (nI (k + 1)) n))), (6, .int (smF (U.2 0) false 1 (nI (k + 1)) n)), (5, .int (smF (U.2 0) true (nI (k + 1)) 99 n)), (0, .ref (mo 0)), (1, .int a), (2, .int v), (3, .int u1)]) C.1 C.2.1 dX12_pool_90 hl (k := 8) rfl (inc_nI (k + 1)) (by decide) rfl (fun ls hl => ?_)
            refine lv_goto (tgt := 9) C.1 C.2.1 dX12_pool_93 (by decide) ?_
            exact ih9 (k + 1, a, v, u1) (⟨by omega, by omega, by rw [po_s, ← h3]; exact (if_neg (fun h => h.elim c_61 (fun q => c_72 q.2.1))).symm⟩) _ _ hw _ (lv_sub hl [5, 6, 7, 8, 0] rfl)
          · refine lv_iload C.1 C.2.1 dX12_pool_75 (lv_at hl 0 rfl) ?_
            refine lv_iload_n C.1 C.2.1 dX12_pool_77 rfl (lv_at hl 7 rfl) ?_
            refine lv_icmp_ge (tgt := 90) C.1 C.2.1 dX12_pool_78 (by decide) (fun c_78 => ?_) (fun c_78 => ?_)
            · refine lv_iinc (v := nI (k + 1 + 1)) (lv' := [(4, .int (nI (k + 1 + 1))), (8, .int ((mmax (smF (U.2 0) true (nI (k + 1)) 99 n) (smF (U.2 0) false 1 (nI (k + 1)) n)) - (mmin (smF (U.2 0) true (nI (k + 1)) 99 n) (smF (U.2 0) false 1 (nI (k + 1)) n)))), (7, .int (mmin (smF (U.2 0) true (nI (k + 1)) 99 n) (smF (U.2 0) false 1 (nI (k + 1)) n))), (6, .int (smF (U.2 0) false 1 (nI (k + 1)) n)), (5, .int (smF (U.2 0) true (nI (k + 1)) 99 n)), (0, .ref (mo 0)), (1, .int a), (2, .int v), (3, .int u1)]) C.1 C.2.1 dX12_pool_90 hl (k := 8) rfl (inc_nI (k + 1)) (by decide) rfl (fun ls hl => ?_)
              refine lv_goto (tgt := 9) C.1 C.2.1 dX12_pool_93 (by decide) ?_
              exact ih9 (k + 1, a, v, u1) (⟨by omega, by omega, by rw [po_s, ← h3]; exact (if_neg (fun h => h.elim c_61 (fun q => (Int32.not_lt.mpr c_78) q.2.2))).symm⟩) _ _ hw _ (lv_sub hl [5, 6, 7, 8, 0] rfl)
            · refine lv_iload C.1 C.2.1 dX12_pool_81 (lv_at hl 8 rfl) ?_
              refine lv_istore_n (lv' := [(1, .int (nI (k + 1))), (8, .int ((mmax (smF (U.2 0) true (nI (k + 1)) 99 n) (smF (U.2 0) false 1 (nI (k + 1)) n)) - (mmin (smF (U.2 0) true (nI (k + 1)) 99 n) (smF (U.2 0) false 1 (nI (k + 1)) n)))), (7, .int (mmin (smF (U.2 0) true (nI (k + 1)) 99 n) (smF (U.2 0) false 1 (nI (k + 1)) n))), (6, .int (smF (U.2 0) false 1 (nI (k + 1)) n)), (5, .int (smF (U.2 0) true (nI (k + 1)) 99 n)), (0, .ref (mo 0)), (2, .int v), (3, .int u1), (4, .int (nI (k + 1)))]) C.1 C.2.1 dX12_pool_83 rfl hl (by decide) rfl (fun ls hl => ?_)
              refine lv_iload C.1 C.2.1 dX12_pool_84 (lv_at hl 2 rfl) ?_
              refine lv_istore_n (lv' := [(2, .int (mmin (smF (U.2 0) true (nI (k + 1)) 99 n) (smF (U.2 0) false 1 (nI (k + 1)) n))), (1, .int (nI (k + 1))), (8, .int ((mmax (smF (U.2 0) true (nI (k + 1)) 99 n) (smF (U.2 0) false 1 (nI (k + 1)) n)) - (mmin (smF (U.2 0) true (nI (k + 1)) 99 n) (smF (U.2 0) false 1 (nI (k + 1)) n)))), (7, .int (mmin (smF (U.2 0) true (nI (k + 1)) 99 n) (smF (U.2 0) false 1 (nI (k + 1)) n))), (6, .int (smF (U.2 0) false 1 (nI (k + 1)) n)), (5, .int (smF (U.2 0) true (nI (k + 1)) 99 n)), (0, .ref (mo 0)), (3, .int u1), (4, .int (nI (k + 1)))]) C.1 C.2.1 dX12_pool_86 rfl hl (by decide) rfl (fun ls hl => ?_)
              refine lv_iload C.1 C.2.1 dX12_pool_87 (lv_at hl 2 rfl) ?_
              refine lv_istore_n (lv' := [(3, .int ((mmax (smF (U.2 0) true (nI (k + 1)) 99 n) (smF (U.2 0) false 1 (nI (k + 1)) n)) - (mmin (smF (U.2 0) true (nI (k + 1)) 99 n) (smF (U.2 0) false 1 (nI (k + 1)) n)))), (2, .int (mmin (smF (U.2 0) true (nI (k + 1)) 99 n) (smF (U.2 0) false 1 (nI (k + 1)) n))), (1, .int (nI (k + 1))), (8, .int ((mmax (smF (U.2 0) true (nI (k + 1)) 99 n) (smF (U.2 0) false 1 (nI (k + 1)) n)) - (mmin (smF (U.2 0) true (nI (k + 1)) 99 n) (smF (U.2 0) false 1 (nI (k + 1)) n)))), (7, .int (mmin (smF (U.2 0) true (nI (k + 1)) 99 n) (smF (U.2 0) false 1 (nI (k + 1)) n))), (6, .int (smF (U.2 0) false 1 (nI (k + 1)) n)), (5, .int (smF (U.2 0) true (nI (k + 1)) 99 n)), (0, .ref (mo 0)), (4, .int (nI (k + 1)))]) C.1 C.2.1 dX12_pool_89 rfl hl (by decide) rfl (fun ls hl => ?_)
              refine lv_iinc (v := nI (k + 1 + 1)) (lv' := [(4, .int (nI (k + 1 + 1))), (3, .int ((mmax (smF (U.2 0) true (nI (k + 1)) 99 n) (smF (U.2 0) false 1 (nI (k + 1)) n)) - (mmin (smF (U.2 0) true (nI (k + 1)) 99 n) (smF (U.2 0) false 1 (nI (k + 1)) n)))), (2, .int (mmin (smF (U.2 0) true (nI (k + 1)) 99 n) (smF (U.2 0) false 1 (nI (k + 1)) n))), (1, .int (nI (k + 1))), (8, .int ((mmax (smF (U.2 0) true (nI (k + 1)) 99 n) (smF (U.2 0) false 1 (nI (k + 1)) n)) - (mmin (smF (U.2 0) true (nI (k + 1)) 99 n) (smF (U.2 0) false 1 (nI (k + 1)) n)))), (7, .int (mmin (smF (U.2 0) true (nI (k + 1)) 99 n) (smF (U.2 0) false 1 (nI (k + 1)) n))), (6, .int (smF (U.2 0) false 1 (nI (k + 1)) n)), (5, .int (smF (U.2 0) true (nI (k + 1)) 99 n)), (0, .ref (mo 0))]) C.1 C.2.1 dX12_pool_90 hl (k := 8) rfl (inc_nI (k + 1)) (by decide) rfl (fun ls hl => ?_)
              refine lv_goto (tgt := 9) C.1 C.2.1 dX12_pool_93 (by decide) ?_
              exact ih9 (k + 1, (nI (k + 1)), (mmin (smF (U.2 0) true (nI (k + 1)) 99 n) (smF (U.2 0) false 1 (nI (k + 1)) n)), ((mmax (smF (U.2 0) true (nI (k + 1)) 99 n) (smF (U.2 0) false 1 (nI (k + 1)) n)) - (mmin (smF (U.2 0) true (nI (k + 1)) 99 n) (smF (U.2 0) false 1 (nI (k + 1)) n)))) (⟨by omega, by omega, by rw [po_s, ← h3]; exact (if_pos (Or.inr ⟨c_66, c_72, Int32.not_le.mp c_78⟩)).symm⟩) _ _ hw _ (lv_sub hl [8, 3, 2, 1, 0] rfl)
  · rintro ⟨k, a, v, u1⟩ ⟨h1, h2, h3⟩; omega

